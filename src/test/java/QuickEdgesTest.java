/** The sentences of the document on islands and the quick reading that name an edge; promise 11. */
public final class QuickEdgesTest {
    private static final Checks CHECKS = new Checks("QuickEdgesTest");

    public static void main(String[] args) {
        shortTexts();
        wordsAtTheEnd();
        escapesAreSkipped();
        closingOfTheInnermost();
        openingWhereItCanStand();
        fewerThanEight();
        eightAreFewerAgain();
        whatEightStillLookAt();
        closingOfOthers();
        rawLooksAtItsClosingWordAlone();
        longestWord();
        equallyLongWords();
        smallerKind();
        openedLater();
        givenUp();
        stray();
        nextPlace();
        unfinished();
        numbersInOrderOfStarts();
        anewEachTime();
        CHECKS.end();
    }

    private static IslandParser brackets() {
        return Parsers.with("(", ")", "[", "]");
    }

    private static void shortTexts() {
        CHECKS.part("an empty text and texts of one byte");
        IslandParser parser = brackets();
        CHECKS.same("empty", parser.quick(), 0);
        CHECKS.same("an opening word alone", Parsers.quick(parser, "("), "0:0-1u left 0");
        CHECKS.same("a closing word alone", Parsers.quick(parser, ")"), "left 0");
        CHECKS.same("no word", Parsers.quick(parser, "x"), "left 0");
        CHECKS.same("the number of islands", Parsers.reset(parser, "([]").quick(), 2);
    }

    private static void wordsAtTheEnd() {
        CHECKS.part("2: all of whose bytes are here");
        IslandParser parser = Parsers.with("<!-", "-!>");
        for (int size = 3; size <= 48; size += 15) {
            String ahead = "x".repeat(size - 3);
            CHECKS.same("an opening word at the end of " + size, Parsers.quick(parser, ahead + "<!-"),
                    "0:" + (size - 3) + "-" + size + "u left 0");
            CHECKS.same("two of its bytes", Parsers.quick(parser, "x" + ahead + "<!"), "left 0");
            CHECKS.same("one of its bytes", Parsers.quick(parser, "xx" + ahead + "<"), "left 0");
        }
        String inside = "<!-" + "x".repeat(42);
        CHECKS.same("a closing word at the end of 48", Parsers.quick(parser, inside + "-!>"), "0:0-48w left 0");
        CHECKS.same("two of its bytes", Parsers.quick(parser, inside + "x-!"), "0:0-48u left 0");
        CHECKS.same("one of its bytes", Parsers.quick(parser, inside + "xx-"), "0:0-48u left 0");
        IslandParser three = Parsers.with("<", ">", "<<", ">", "<<<", ">");
        CHECKS.same("only the shortest is here", Parsers.quick(three, "x<"), "0:1-2u left 0");
        CHECKS.same("the two shorter ones are here", Parsers.quick(three, "x<<"), "1:1-3u left 0");
        CHECKS.same("all are here", Parsers.quick(three, "x<<<"), "2:1-4u left 0");
    }

    private static void escapesAreSkipped() {
        CHECKS.part("1: an escape byte is skipped with the byte behind it");
        IslandParser parser = brackets();
        parser.setEscape('^');
        CHECKS.same("at place 0", Parsers.quick(parser, "^()"), "left 0");
        CHECKS.same("in an island", Parsers.quick(parser, "(^))"), "0:0-4w left 0");
        CHECKS.same("by itself at the end of the text", Parsers.quick(parser, "()^"), "0:0-2w left 0");
        CHECKS.same("an opening word is skipped", Parsers.quick(parser, "(^[)"), "0:0-4w left 0");
        CHECKS.same("an outer closing word is skipped", Parsers.quick(parser, "([^)])"), "0:0-6w 1:1-5w left 0");
        parser.setLenient(false);
        CHECKS.same("a stray word is skipped", Parsers.quick(parser, "([^))"), "0:0-5u 1:1-5u left 1");
    }

    private static void closingOfTheInnermost() {
        CHECKS.part("2 (a): the closing word of the innermost open island");
        IslandParser parser = brackets();
        CHECKS.same("the innermost of a kind", Parsers.quick(parser, "(())"), "0:0-4w 0:1-3w left 0");
        CHECKS.same("none is open", Parsers.quick(parser, ")]("), "0:2-3u left 0");
        CHECKS.same("none is open any more", Parsers.quick(parser, "())"), "0:0-2w left 0");
        CHECKS.same("of a kind that is not open", Parsers.quick(parser, "(])"), "0:0-3w left 0");
        parser.setLenient(false);
        CHECKS.same("neither is stray", Parsers.quick(parser, ")](])]"), "0:2-5w left 0");
    }

    private static void openingWhereItCanStand() {
        CHECKS.part("2 (b): the opening words of all complete kinds that can stand here");
        IslandParser parser = brackets();
        parser.setKind(0, false, true, 0);
        CHECKS.same("nothing in 0", Parsers.quick(parser, "([()])"), "0:0-4w left 0");
        parser.setKind(0, false, false, 0);
        parser.setKind(1, false, true, 1);
        CHECKS.same("0 in 1 alone", Parsers.quick(parser, "([([])])"), "1:1-5w 0:2-4b left 0");
        parser.setKind(1, false, false, 63);
        CHECKS.same("none outside", Parsers.quick(parser, "([])"), "left 0");
        IslandParser longer = Parsers.with("<", ">", "<<", ">>");
        longer.setKind(1, false, false, 63);
        CHECKS.same("a longer word that cannot stand here hides nothing", Parsers.quick(longer, "<<>>"),
                "0:0-4w 0:1-3w left 0");
        CHECKS.same("where it can, it is taken", Parsers.quick(longer, "<<<>>>"), "0:0-6w 1:1-5w left 0");
    }

    private static void fewerThanEight() {
        CHECKS.part("2: (b) only if fewer than 8 islands are open");
        IslandParser parser = brackets();
        for (int many = 0; many <= 24; many++) {
            int opened = Math.min(many, 8);
            StringBuilder open = new StringBuilder();
            StringBuilder closed = new StringBuilder();
            for (int i = 0; i < opened; i++) {
                open.append("0:").append(i).append('-').append(many).append("u ");
                closed.append("0:").append(i).append('-').append(many + opened - i).append("w ");
            }
            CHECKS.same(many + " opening words", Parsers.quick(parser, "(".repeat(many)), open + "left 0");
            CHECKS.same(many + " of both", Parsers.quick(parser, "(".repeat(many) + ")".repeat(many)),
                    closed + "left 0");
        }
        Parsers.reset(parser, "(".repeat(48));
        CHECKS.same("48 opening words", parser.quick(), 8);
        CHECKS.same("side by side there is no such limit", Parsers.reset(parser, "()".repeat(24)).quick(), 24);
        parser.setLenient(false);
        CHECKS.same("a word that does not open is not stray", Parsers.quick(parser, "[".repeat(7) + "(([)"),
                "1:0-11u 1:1-11u 1:2-11u 1:3-11u 1:4-11u 1:5-11u 1:6-11u 0:7-11w left 0");
    }

    private static void eightAreFewerAgain() {
        CHECKS.part("2: fewer than 8 again");
        IslandParser parser = brackets();
        String sixOfTen = "0:0-10u 0:1-10u 0:2-10u 0:3-10u 0:4-10u 0:5-10u 0:6-10u ";
        CHECKS.same("behind a whole one", Parsers.quick(parser, "(".repeat(8) + ")["),
                sixOfTen + "0:7-9w 1:9-10u left 0");
        CHECKS.same("behind given up ones", Parsers.quick(parser, "[" + "(".repeat(8) + "](("),
                "1:0-10w 0:1-9b 0:2-9b 0:3-9b 0:4-9b 0:5-9b 0:6-9b 0:7-9b 0:10-12u 0:11-12u left 0");
        Parsers.reset(parser, "[" + "(".repeat(7) + "]" + "(".repeat(9));
        CHECKS.same("eight more", parser.quick(), 16);
        CHECKS.same("the deepest", parser.depth(15), 7);
        parser.setLenient(false);
        Parsers.reset(parser, "[" + "(".repeat(7) + "]" + "(".repeat(9));
        CHECKS.same("a stray word makes no room", parser.quick(), 8);
        CHECKS.same("it is stray", parser.left(), 1);
    }

    private static void whatEightStillLookAt() {
        CHECKS.part("2: (a) and (c) with 8 islands open");
        IslandParser quotes = Parsers.with("(", ")", "'", "'");
        String sevenOfTen = "0:0-10u 0:1-10u 0:2-10u 0:3-10u 0:4-10u 0:5-10u 0:6-10u ";
        CHECKS.same("(a) by a word that opens too", Parsers.quick(quotes, "(((((((''x"),
                sevenOfTen + "1:7-9w left 0");
        CHECKS.same("(c) by a word that opens too", Parsers.quick(quotes, "'((((((('"),
                "1:0-9w 0:1-8b 0:2-8b 0:3-8b 0:4-8b 0:5-8b 0:6-8b 0:7-8b left 0");
        CHECKS.same("with seven it opens", Parsers.quick(quotes, "'(((((('"),
                "1:0-8u 0:1-8u 0:2-8u 0:3-8u 0:4-8u 0:5-8u 0:6-8u 1:7-8u left 0");
        IslandParser longer = Parsers.with("(", ")", "))", "!");
        CHECKS.same("(a) is shorter than a word that would open", Parsers.quick(longer, "(((((((())"),
                "0:0-10u 0:1-10u 0:2-10u 0:3-10u 0:4-10u 0:5-10u 0:6-10w 0:7-9w left 0");
        CHECKS.same("with seven the longer one opens", Parsers.quick(longer, "((((((())!"),
                sevenOfTen + "1:7-10w left 0");
    }

    private static void closingOfOthers() {
        CHECKS.part("2 (c): the closing words of the other open islands");
        IslandParser parser = brackets();
        for (int which = 0; which < 7; which++) {
            StringBuilder want = new StringBuilder();
            for (int i = 0; i < 8; i++) {
                want.append(i == which ? "1:" : "0:").append(i);
                want.append(i < which ? "-9u " : i == which ? "-9w " : "-8b ");
            }
            CHECKS.same("the island " + which + " of eight", Parsers.quick(parser,
                    "(".repeat(which) + "[" + "(".repeat(7 - which) + "]"), want + "left 0");
        }
        CHECKS.same("one that has ended is not open", Parsers.quick(parser, "[](]"), "1:0-2w 0:2-4u left 0");
        CHECKS.same("nor one that was given up", Parsers.quick(parser, "([)(]"), "0:0-3w 1:1-2b 0:3-5u left 0");
    }

    private static void rawLooksAtItsClosingWordAlone() {
        CHECKS.part("2: if this is not raw; if the innermost one is not raw");
        for (boolean isLenient : new boolean[] {true, false}) {
            IslandParser parser = brackets();
            parser.setLenient(isLenient);
            parser.setKind(1, true, true, 63);
            CHECKS.same("neither (b) nor (c)", Parsers.quick(parser, "([()])"), "0:0-6w 1:1-5w left 0");
            CHECKS.same("outside of all others", Parsers.quick(parser, "[([)]"), "1:0-5w left 0");
            CHECKS.same("to the end of the text", Parsers.quick(parser, "([)"), "0:0-3u 1:1-3u left 0");
        }
        IslandParser longer = Parsers.with("(", "]]", "[", "]");
        CHECKS.same("an outer closing word that is longer", Parsers.quick(longer, "([]]"), "0:0-4w 1:1-2b left 0");
        longer.setKind(1, true, true, 63);
        CHECKS.same("in a raw one it is not looked at", Parsers.quick(longer, "([]]"), "0:0-4u 1:1-3w left 0");
        IslandParser outer = brackets();
        outer.setKind(0, true, true, 63);
        CHECKS.same("a raw outer one", Parsers.quick(outer, "[(])]"), "1:0-5w 0:1-4w left 0");
    }

    /** (a), (b) and (c) of every length each: the longest, and of equally long ones the first. */
    private static void longestWord() {
        CHECKS.part("2: the longest of these words is taken");
        for (int a = 1; a <= 3; a++) {
            for (int b = 1; b <= 3; b++) {
                for (int c = 1; c <= 3; c++) {
                    IslandParser parser = Parsers.with("(", "xyz".substring(0, c), "[", "xyz".substring(0, a),
                            "xyz".substring(0, b), "!");
                    boolean takesA = a >= b && a >= c;
                    boolean takesB = !takesA && b >= c;
                    String others = takesA ? "0:0-5u 1:1-" + (2 + a) + "w left 0" : "0:0-5u 1:1-5u 2:2-5u left 0";
                    String lengths = "(a) " + a + " (b) " + b + " (c) " + c;
                    CHECKS.same(lengths, Parsers.quick(parser, "([xyz"),
                            takesA || takesB ? others : "0:0-" + (2 + c) + "w 1:1-2b left 0");
                    parser.setLenient(false);
                    CHECKS.same(lengths + ", not lenient", Parsers.quick(parser, "([xyz"),
                            takesA || takesB ? others : "0:0-5u 1:1-5u left 1");
                }
            }
        }
    }

    private static void equallyLongWords() {
        CHECKS.part("2: of equally long ones (a) comes before (b), and (b) before (c)");
        IslandParser quotes = Parsers.with("'", "'", "(", ")");
        CHECKS.same("(a) before (b)", Parsers.quick(quotes, "''"), "0:0-2w left 0");
        CHECKS.same("(b) before (c)", Parsers.quick(quotes, "'('"), "0:0-3u 1:1-3u 0:2-3u left 0");
        quotes.setKind(1, false, true, 62);
        CHECKS.same("(c) if it cannot stand here", Parsers.quick(quotes, "'('"), "0:0-3w 1:1-2b left 0");
        IslandParser twins = Parsers.with("(", "|", "[", "|");
        CHECKS.same("(a) before (c)", Parsers.quick(twins, "([|"), "0:0-3u 1:1-3w left 0");
    }

    private static void smallerKind() {
        CHECKS.part("2: of several of (b) that of the smaller kind");
        for (int set = 0; set <= 63; set++) {
            IslandParser parser = Parsers.with("(", "0", "(", "1", "(", "2", "(", "3", "(", "4", "(", "5");
            int smallest = Integer.numberOfTrailingZeros(set | 64);
            for (int kind = 0; kind < 6; kind++) {
                parser.setKind(kind, false, (set >> kind & 1) == 1, 63);
            }
            CHECKS.same("outside " + set, Parsers.quick(parser, "x("),
                    set == 0 ? "left 0" : smallest + ":1-2u left 0");
            for (int kind = 0; kind < 6; kind++) {
                parser.setKind(kind, false, kind == 5, set);
            }
            CHECKS.same("inside " + set, Parsers.quick(parser, "(("),
                    "5:0-2u " + (set == 0 ? "" : smallest + ":1-2u ") + "left 0");
        }
    }

    private static void openedLater() {
        CHECKS.part("2: of several of (c) that of the island that was opened later");
        IslandParser parser = Parsers.with("(", "!", "[", "!", "{", "}");
        CHECKS.same("of a greater kind", Parsers.quick(parser, "([{!"), "0:0-4u 1:1-4w 2:2-3b left 0");
        CHECKS.same("of a smaller kind", Parsers.quick(parser, "[({!"), "1:0-4u 0:1-4w 2:2-3b left 0");
        CHECKS.same("of the same kind", Parsers.quick(parser, "(({!"), "0:0-4u 0:1-4w 2:2-3b left 0");
        CHECKS.same("of three", Parsers.quick(parser, "([({{!"), "0:0-6u 1:1-6u 0:2-6w 2:3-5b 2:4-5b left 0");
        IslandParser longer = Parsers.with("(", "!!", "[", "!", "{", "}");
        CHECKS.same("a longer word goes first", Parsers.quick(longer, "([{!!"), "0:0-5w 1:1-3b 2:2-3b left 0");
        CHECKS.same("if it is here", Parsers.quick(longer, "([{!"), "0:0-4u 1:1-4w 2:2-3b left 0");
    }

    private static void givenUp() {
        CHECKS.part("3: all islands that were opened behind that one are given up at this place");
        for (int many = 1; many <= 7; many++) {
            for (int length = 1; length <= 3; length++) {
                IslandParser parser = Parsers.with("(", ")", "[", "]]]".substring(0, length));
                StringBuilder want = new StringBuilder("1:0-" + (many + 3 + length) + "w ");
                for (int i = 1; i <= many; i++) {
                    want.append("0:").append(i).append('-').append(many + 3).append("b ");
                }
                CHECKS.same(many + " at once", Parsers.quick(parser, "[" + "(".repeat(many) + "xx"
                        + "]]]".substring(0, length) + "x"), want + "left 0");
                CHECKS.same("how many are broken", parser.count(0, 1), many);
            }
        }
        IslandParser parser = brackets();
        CHECKS.same("whole ones inside stay whole", Parsers.quick(parser, "[(()]"),
                "1:0-5w 0:1-4b 0:2-4w left 0");
        CHECKS.same("those around stay open", Parsers.quick(parser, "([(])"), "0:0-5w 1:1-4w 0:2-3b left 0");
    }

    private static void stray() {
        CHECKS.part("3: otherwise the word is stray. It goes on behind the word");
        for (int many = 0; many <= 46; many++) {
            IslandParser parser = brackets();
            String text = "([" + ")".repeat(many);
            parser.setLenient(false);
            String both = "0:0-" + (many + 2) + "u 1:1-" + (many + 2) + "u left ";
            CHECKS.same(many + " stray words", Parsers.quick(parser, text), both + many);
            IslandParser longer = Parsers.with("(", ")))", "[", "]");
            longer.setLenient(false);
            CHECKS.same("of three bytes in " + many, Parsers.quick(longer, text), both + many / 3);
        }
        IslandParser parser = Parsers.with("(", ")", "[", "]", "{", "}");
        parser.setLenient(false);
        CHECKS.same("it ends nothing", Parsers.quick(parser, "([{)]}])"), "0:0-8w 1:1-7w 2:2-6w left 2");
        IslandParser covering = Parsers.with("(", ")[", "{", "}", "[", "]");
        covering.setLenient(false);
        CHECKS.same("its bytes open nothing", Parsers.quick(covering, "({)[]}"), "0:0-6u 1:1-6w left 1");
    }

    private static void nextPlace() {
        CHECKS.part("4: if there is no such word, it goes on with the next place");
        IslandParser parser = Parsers.with("aab", "b");
        CHECKS.same("a word that begins later", Parsers.quick(parser, "aaaab.b"), "0:2-7w left 0");
        CHECKS.same("behind a word it goes on behind its end", Parsers.quick(parser, "aabaabb"),
                "0:0-7u 0:3-7w left 0");
        IslandParser overlapping = Parsers.with("aa", "aaa");
        CHECKS.same("no byte is in two words", Parsers.quick(overlapping, "aaaaa"), "0:0-5w left 0");
    }

    private static void unfinished() {
        CHECKS.part("at the end of the text all islands that are still open are unfinished");
        for (int many = 1; many <= 8; many++) {
            for (int rest = 0; rest <= 40; rest += 8) {
                IslandParser parser = brackets();
                Parsers.reset(parser, "(".repeat(many) + "x".repeat(rest)).quick();
                CHECKS.same("how many", parser.count(0, 2), many);
                for (int island = 0; island < many; island++) {
                    CHECKS.same("the end is the size", parser.end(island), many + rest);
                }
            }
        }
        IslandParser parser = brackets();
        CHECKS.same("at place 47", Parsers.quick(parser, "x".repeat(47) + "("), "0:47-48u left 0");
        CHECKS.same("whole at places 46 and 47", Parsers.quick(parser, "x".repeat(46) + "()"), "0:46-48w left 0");
    }

    private static void numbersInOrderOfStarts() {
        CHECKS.part("islands: numbered from 0 in ascending order of their starts");
        IslandParser parser = brackets();
        CHECKS.same("not of their ends", Parsers.quick(parser, "(()[])()"),
                "0:0-6w 0:1-3w 1:3-5w 0:6-8w left 0");
        CHECKS.same("nor of their states", Parsers.quick(parser, "([)(()"),
                "0:0-3w 1:1-2b 0:3-6u 0:4-6w left 0");
    }

    private static void anewEachTime() {
        CHECKS.part("a row of open islands, at first none");
        IslandParser parser = brackets();
        parser.setLenient(false);
        Parsers.quick(parser, "((((((([)");
        CHECKS.same("stray words", parser.left(), 1);
        CHECKS.same("the same reading again", parser.quick(), 8);
        CHECKS.same("stray words are not added up", parser.left(), 1);
        CHECKS.same("a text that only closes", Parsers.quick(parser, "])"), "left 0");
        CHECKS.same("eight can be opened again", Parsers.reset(parser, "(".repeat(9)).quick(), 8);
        CHECKS.same("behind a best reading too", parser.best(), 9);
        CHECKS.same("eight again", parser.quick(), 8);
    }
}

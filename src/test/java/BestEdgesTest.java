/** The sentences of the document on marks and the best reading that name an edge; promises 12, 14, 15. */
public final class BestEdgesTest {
    private static final Checks CHECKS = new Checks("BestEdgesTest");

    public static void main(String[] args) {
        shortTexts();
        marksAtTheEnd();
        marksAreTheLongestWords();
        marksGoOnBehind();
        marksNeedNotFit();
        marksWithAndWithoutReading();
        opensAndClosesEachKind();
        aLaterMark();
        oneMarkInOnePair();
        pairsDoNotCross();
        allPairsAreWhole();
        noLimitOfEight();
        allowedWhereItStands();
        rawPairs();
        fewestUnused();
        opensBeforeUnused();
        smallerKind();
        nearerPartner();
        firstMarkThatIsDifferent();
        lenienceIsNothing();
        anewEachTime();
        CHECKS.end();
    }

    private static IslandParser brackets() {
        return Parsers.with("(", ")", "[", "]");
    }

    private static void shortTexts() {
        CHECKS.part("an empty text, no marks, one mark");
        IslandParser parser = brackets();
        CHECKS.same("an empty text", parser.best(), 0);
        CHECKS.same("its islands", parser.islandCount(), 0);
        CHECKS.same("no marks", Parsers.best(parser, "x".repeat(48)), "left 0");
        CHECKS.same("one that opens", Parsers.best(parser, "("), "left 1");
        CHECKS.same("one that closes", Parsers.best(parser, ")"), "left 1");
        CHECKS.same("the number of unused marks", Parsers.reset(parser, "(()").best(), 1);
        CHECKS.same("no words", Parsers.reset(new IslandParser(), "()").best(), 0);
    }

    private static void marksAtTheEnd() {
        CHECKS.part("promise 14 and 15: words that stand at the end of the text, or do not");
        IslandParser parser = Parsers.with("<!-", "-!>", "!", "?");
        String ahead = "x".repeat(45);
        CHECKS.same("three bytes at place 45", Parsers.marks(parser, ahead + "-!>"), "45");
        CHECKS.same("two of them", Parsers.marks(parser, "x" + ahead + "<!"), "47");
        CHECKS.same("one of them", Parsers.marks(parser, "xx" + ahead + "<"), "");
        CHECKS.same("one byte at place 47", Parsers.marks(parser, "xx" + ahead + "?"), "47");
        CHECKS.same("the best reading", Parsers.best(parser, "<!-" + "x".repeat(42) + "-!>"), "0:0-48w left 0");
        for (int many = 0; many <= 48; many++) {
            Parsers.reset(parser, "?".repeat(many));
            CHECKS.same(many + " marks", parser.markCount(), many);
            if (many > 0) {
                CHECKS.same("the first of them", parser.mark(0), 0);
                CHECKS.same("the last of them", parser.mark(many - 1), many - 1);
            }
            CHECKS.same("all unused", parser.best(), many);
        }
    }

    private static void marksAreTheLongestWords() {
        CHECKS.part("marks: the longest of all words that stand there, opening and closing ones");
        for (int opening = 1; opening <= 3; opening++) {
            for (int closing = 1; closing <= 3; closing++) {
                IslandParser parser = Parsers.with("xyz".substring(0, opening), "!",
                        "?", "xyz".substring(0, closing), "z", "@");
                int longest = Math.max(opening, closing);
                int markOfZ = longest == 3 ? 0 : 1;
                CHECKS.same("opening " + opening + ", closing " + closing, Parsers.marks(parser, ".xyz"),
                        markOfZ == 0 ? "1" : "1 3");
                CHECKS.same("it opens if it is the opening word", Parsers.best(parser, "xyz!"),
                        opening == longest ? "0:0-4w left " + markOfZ : "left " + (2 + markOfZ));
                CHECKS.same("it closes if it is the closing word", Parsers.best(parser, "?xyz"),
                        closing == longest ? "1:0-" + (1 + closing) + "w left " + markOfZ
                                : "left " + (2 + markOfZ));
            }
        }
    }

    private static void marksGoOnBehind() {
        CHECKS.part("marks: and it goes on behind it; if there is none, with the next place");
        IslandParser parser = Parsers.with("aa", "b", "ab", "c");
        CHECKS.same("no byte is in two marks", Parsers.marks(parser, "aaab"), "0 2");
        CHECKS.same("a word that begins a place later", Parsers.marks(parser, "caab"), "0 1 3");
        CHECKS.same("no word", Parsers.marks(parser, "a.a.a"), "");
        parser.setEscape('^');
        CHECKS.same("escape bytes are skipped as before", Parsers.marks(parser, "^aaab^b^^b^"), "2 4 9");
        CHECKS.same("an escaped byte is no mark", Parsers.marks(parser, "^b"), "");
        CHECKS.same("in the middle of a word", Parsers.marks(parser, "a^ab"), "3");
    }

    private static void marksNeedNotFit() {
        CHECKS.part("marks: whatever can stand where, raw or not, deep or not");
        IslandParser parser = brackets();
        parser.setKind(0, true, false, 0);
        parser.setKind(1, true, false, 0);
        CHECKS.same("nothing can stand", Parsers.marks(parser, "([)]"), "0 1 2 3");
        CHECKS.same("all are unused", Parsers.best(parser, "([)]"), "left 4");
        CHECKS.same("in what is raw", Parsers.marks(parser, "[()]"), "0 1 2 3");
        IslandParser incomplete = Parsers.with("(", null, null, "]", "{", "}");
        CHECKS.same("of complete kinds alone", Parsers.marks(incomplete, "({]})"), "1 3");
    }

    private static void marksWithAndWithoutReading() {
        CHECKS.part("promise 14: whether there is a reading or not");
        IslandParser parser = brackets();
        Parsers.feed(parser, "([(x)");
        CHECKS.same("without", parser.markCount(), 4);
        parser.quick();
        CHECKS.same("with a quick one", parser.markCount(), 4);
        CHECKS.same("the last place", parser.mark(3), 4);
        parser.best();
        CHECKS.same("with a best one", parser.markCount(), 4);
        CHECKS.same("the reading is kept", Parsers.reading(parser), "0:0-5w left 2");
        parser.set(1, '^');
        CHECKS.same("they are those of the text now", parser.markCount(), 3);
        parser.setEscape('^');
        CHECKS.same("and of the escape byte", parser.markCount(), 2);
        parser.setWord(0, false, 0, 0);
        CHECKS.same("and of the words", parser.markCount(), 0);
    }

    private static void opensAndClosesEachKind() {
        CHECKS.part("a mark can open each complete kind whose opening word it is, and close each one");
        for (int kind = 0; kind < 6; kind++) {
            IslandParser opens = Parsers.with("(", "0", "(", "1", "(", "2", "(", "3", "(", "4", "(", "5");
            CHECKS.same("opens " + kind, Parsers.best(opens, "(" + kind), kind + ":0-2w left 0");
            IslandParser closes = Parsers.with("0", ")", "1", ")", "2", ")", "3", ")", "4", ")", "5", ")");
            CHECKS.same("closes " + kind, Parsers.best(closes, kind + ")"), kind + ":0-2w left 0");
            CHECKS.same("not of two kinds", Parsers.best(opens, kind + "("), "left 2");
        }
        IslandParser both = Parsers.with("(", "|", "|", ")");
        CHECKS.same("one that opens one kind and closes another", Parsers.best(both, "(|"), "0:0-2w left 0");
        CHECKS.same("in the other way", Parsers.best(both, "|)"), "1:0-2w left 0");
        CHECKS.same("not both at once", Parsers.best(both, "(|)"), "0:0-2w left 1");
        IslandParser twins = Parsers.with("(", "|", "[", "|");
        CHECKS.same("it closes the one that opens first", Parsers.best(twins, "([|"), "0:0-3w left 1");
        CHECKS.same("of the other kind too", Parsers.best(twins, "[(|"), "1:0-3w left 1");
        CHECKS.same("two of them", Parsers.best(twins, "([||"), "0:0-4w 1:1-3w left 0");
    }

    private static void aLaterMark() {
        CHECKS.part("a mark that opens a kind, and a later mark that closes the same kind");
        CHECKS.same("not an earlier one", Parsers.best(brackets(), ")("), "left 2");
        CHECKS.same("not of another kind", Parsers.best(brackets(), "(]"), "left 2");
        CHECKS.same("not itself", Parsers.best(Parsers.with("'", "'"), "'"), "left 1");
        IslandParser rawQuotes = Parsers.with("'", "'", "(", ")");
        rawQuotes.setKind(0, true, true, 63);
        CHECKS.same("not itself in a raw kind either", Parsers.best(rawQuotes, "'(')"), "0:0-3w left 1");
        CHECKS.same("the next one", Parsers.best(brackets(), "()"), "0:0-2w left 0");
        CHECKS.same("the last one of 48", Parsers.best(brackets(), "(" + "]".repeat(46) + ")"), "0:0-48w left 46");
    }

    private static void oneMarkInOnePair() {
        CHECKS.part("each mark is in at most one pair");
        for (int many = 0; many <= 48; many++) {
            IslandParser parser = Parsers.with("'", "'", "'", "'", "'", "'", "'", "'", "'", "'", "'", "'");
            StringBuilder want = new StringBuilder();
            for (int i = 0; i + 1 < many; i += 2) {
                want.append("0:").append(i).append('-').append(i + 2).append("w ");
            }
            CHECKS.same(many + " quotes", Parsers.best(parser, "'".repeat(many)), want + "left " + many % 2);
        }
        CHECKS.same("two that open for one that closes", Parsers.best(brackets(), "(()"), "0:0-3w left 1");
        CHECKS.same("two that close for one that opens", Parsers.best(brackets(), "())"), "0:0-2w left 1");
    }

    private static void pairsDoNotCross() {
        CHECKS.part("pairs do not cross");
        IslandParser parser = brackets();
        CHECKS.same("two", Parsers.best(parser, "([)]"), "0:0-3w left 2");
        CHECKS.same("two of each", Parsers.best(parser, "(([[))]]"), "0:0-6w 0:1-5w left 4");
        CHECKS.same("more of the second", Parsers.best(parser, "([[)]]"), "1:1-6w 1:2-5w left 2");
        CHECKS.same("in one another", Parsers.best(parser, "([])"), "0:0-4w 1:1-3w left 0");
        CHECKS.same("side by side", Parsers.best(parser, "()[]"), "0:0-2w 1:2-4w left 0");
    }

    private static void allPairsAreWhole() {
        CHECKS.part("each pair is a whole island");
        IslandParser parser = brackets();
        Parsers.reset(parser, "([(x)(]").best();
        CHECKS.same("islands", parser.islandCount(), 2);
        for (int kind = 0; kind < 6; kind++) {
            CHECKS.same("whole", parser.count(kind, 0), kind < 2 ? 1 : 0);
            CHECKS.same("broken", parser.count(kind, 1), 0);
            CHECKS.same("unfinished", parser.count(kind, 2), 0);
        }
    }

    private static void noLimitOfEight() {
        CHECKS.part("a best reading has no limit of 8");
        for (int many = 1; many <= 24; many++) {
            IslandParser parser = brackets();
            StringBuilder want = new StringBuilder();
            for (int i = 0; i < many; i++) {
                want.append(i % 2).append(':').append(i).append('-').append(2 * many - i).append("w ");
            }
            String opening = "([".repeat(12).substring(0, many);
            String closing = new StringBuilder(opening).reverse().toString().replace('(', ')').replace('[', ']');
            CHECKS.same(many + " in one another", Parsers.best(parser, opening + closing), want + "left 0");
            CHECKS.same("the deepest", parser.depth(many - 1), many - 1);
            CHECKS.same("its parent", parser.parent(many - 1), many - 2);
            CHECKS.same("at its place", parser.at(many), many - 1);
        }
    }

    private static void allowedWhereItStands() {
        CHECKS.part("it must be allowed to stand where it stands: in the innermost pair around it, or outside");
        IslandParser parser = Parsers.with("(", ")", "[", "]", "{", "}");
        parser.setKind(0, false, true, 2);
        parser.setKind(1, false, false, 4);
        parser.setKind(2, false, false, 0);
        CHECKS.same("each where it can", Parsers.best(parser, "([{}])"), "0:0-6w 1:1-5w 2:2-4w left 0");
        CHECKS.same("not outside", Parsers.best(parser, "[]{}()"), "0:4-6w left 4");
        CHECKS.same("not two deeper", Parsers.best(parser, "({})"), "0:0-4w left 2");
        CHECKS.same("not in itself", Parsers.best(parser, "(())"), "0:0-3w left 2");
        CHECKS.same("nothing in 2", Parsers.best(parser, "([{[]}])"), "0:0-8w 1:1-7w 2:2-6w left 2");
        CHECKS.same("the outer one is needed for the inner one", Parsers.best(parser, "([]])"),
                "0:0-5w 1:1-3w left 1");
        parser.setKind(0, false, false, 63);
        CHECKS.same("none outside", Parsers.best(parser, "([{}])"), "left 6");
    }

    private static void rawPairs() {
        CHECKS.part("in a pair of a raw kind no mark is in another pair; the marks in it are not unused");
        IslandParser parser = brackets();
        parser.setKind(0, true, true, 63);
        for (int many = 0; many <= 46; many++) {
            CHECKS.same(many + " marks in it", Parsers.best(parser, "(" + "[".repeat(many) + ")"),
                    "0:0-" + (many + 2) + "w left 0");
        }
        CHECKS.same("pairs in it are none", Parsers.best(parser, "([])"), "0:0-4w left 0");
        CHECKS.same("its own words in it", Parsers.best(parser, "(()))"), "0:0-5w left 0");
        CHECKS.same("the nearer partner if all are used", Parsers.best(parser, "()()"), "0:0-2w 0:2-4w left 0");
        CHECKS.same("it goes over pairs if that saves more", Parsers.best(parser, "(]()"), "0:0-4w left 0");
        CHECKS.same("marks outside are unused", Parsers.best(parser, "][([)]["), "1:1-6w 0:2-5w left 2");
        parser.setKind(0, true, false, 63);
        CHECKS.same("not where it cannot stand", Parsers.best(parser, "([)"), "left 3");
        CHECKS.same("but where it can", Parsers.best(parser, "[([)]"), "1:0-5w 0:1-4w left 0");
    }

    private static void fewestUnused() {
        CHECKS.part("the best reading is the one with the fewest unused marks");
        IslandParser parser = brackets();
        CHECKS.same("a first mark unused saves two", Parsers.best(parser, "([()]"), "1:1-5w 0:2-4w left 1");
        CHECKS.same("a far partner saves two", Parsers.best(parser, "([)])"), "0:0-5w 1:1-4w left 1");
        CHECKS.same("equally many", Parsers.best(parser, "([)(])"), "0:0-3w 0:3-6w left 2");
        IslandParser kinds = Parsers.with("<", ">", "<", "!", "(", ")");
        kinds.setKind(0, false, true, 0);
        CHECKS.same("a greater kind holds more", Parsers.best(kinds, "<()>"), "0:0-4w left 2");
        CHECKS.same("if its word is there", Parsers.best(kinds, "<()!>"), "1:0-4w 2:1-3w left 1");
    }

    private static void opensBeforeUnused() {
        CHECKS.part("a mark that opens comes before one that is unused");
        IslandParser parser = brackets();
        for (int many = 2; many <= 47; many++) {
            CHECKS.same(many + " that open", Parsers.best(parser, "(".repeat(many) + ")"),
                    "0:0-" + (many + 1) + "w left " + (many - 1));
        }
        CHECKS.same("inside an island", Parsers.best(parser, "[(()]"), "1:0-5w 0:1-4w left 1");
        CHECKS.same("of two kinds", Parsers.best(parser, "[(])"), "1:0-3w left 2");
    }

    private static void smallerKind() {
        CHECKS.part("of two that open, the one that opens the smaller kind");
        for (int first = 0; first < 6; first++) {
            for (int second = first + 1; second < 6; second++) {
                IslandParser parser = new IslandParser();
                for (int kind : new int[] {second, first}) {
                    parser.setWord(kind, false, '<', 1);
                    parser.setWord(kind, true, '>', 1);
                }
                CHECKS.same(first + " before " + second, Parsers.best(parser, "<>"), first + ":0-2w left 0");
                parser.setKind(first, false, false, 63);
                CHECKS.same("that can stand there", Parsers.best(parser, "<<>>"),
                        second + ":0-4w " + first + ":1-3w left 0");
                parser.setKind(first, false, true, 63);
                parser.setWord(first, true, '!', 1);
                CHECKS.same("though its partner is farther", Parsers.best(parser, "<>!"), first + ":0-3w left 1");
                CHECKS.same("but not with more unused", Parsers.best(parser, "<>"), second + ":0-2w left 0");
            }
        }
    }

    private static void nearerPartner() {
        CHECKS.part("then the one whose partner is nearer");
        IslandParser parser = brackets();
        for (int many = 2; many <= 47; many++) {
            CHECKS.same(many + " that close", Parsers.best(parser, "(" + ")".repeat(many)),
                    "0:0-2w left " + (many - 1));
        }
        CHECKS.same("of the second island", Parsers.best(parser, "()[]]"), "0:0-2w 1:2-4w left 1");
        CHECKS.same("inside an island", Parsers.best(parser, "[())]"), "1:0-5w 0:1-3w left 1");
        CHECKS.same("quotes side by side", Parsers.best(Parsers.with("'", "'"), "''''"), "0:0-2w 0:2-4w left 0");
    }

    private static void firstMarkThatIsDifferent() {
        CHECKS.part("at the first mark in which they are different");
        IslandParser twins = Parsers.with("<", ">", "<", "!", "(", ")");
        CHECKS.same("the first mark's kind goes before the second's", Parsers.best(twins, "<<!>>"),
                "0:0-4w 1:1-3w left 1");
        CHECKS.same("the first mark's nearer partner, then the third one's smaller kind",
                Parsers.best(twins, "<!<>!"), "1:0-2w 0:2-4w left 1");
        CHECKS.same("a later mark decides if the first ones are the same", Parsers.best(twins, "()<!>"),
                "2:0-2w 0:2-5w left 1");
        IslandParser quotes = Parsers.with("'", "'", "(", ")");
        CHECKS.same("the first mark opens though a later one then does not", Parsers.best(quotes, "'(')"),
                "0:0-3w left 2");
    }

    private static void lenienceIsNothing() {
        CHECKS.part("a best reading does not look at lenience");
        IslandParser parser = brackets();
        for (String text : new String[] {"([)]", "([)", "(()", "]([)(])"}) {
            parser.setLenient(true);
            String lenient = Parsers.best(parser, text);
            parser.setLenient(false);
            CHECKS.same(text, Parsers.best(parser, text), lenient);
        }
    }

    /** Each text is read by one object behind all the others, and by a new one. */
    private static void anewEachTime() {
        CHECKS.part("a reading has nothing of the readings before it");
        IslandParser parser = brackets();
        parser.setKind(0, true, true, 63);
        String[] texts = {"(((", "([)", ")))", "(])", "", "[[[[]", "[([)]", "]]]]]", "[[[]]", "[(]])"};
        for (int round = 0; round < 2; round++) {
            for (String text : texts) {
                IslandParser fresh = brackets();
                fresh.setKind(0, true, true, 63);
                CHECKS.same(text, Parsers.best(parser, text), Parsers.best(fresh, text));
                CHECKS.same(text + ", marks", Parsers.marks(parser, text), Parsers.marks(fresh, text));
            }
        }
        CHECKS.same("unused", Parsers.reset(parser, "(((").best(), 3);
        CHECKS.same("not unused", Parsers.reset(parser, "([)").best(), 0);
        CHECKS.same("unused again", Parsers.reset(parser, "(((").best(), 3);
    }
}

/** The document's promises, a part each: ordinary inputs, the edges it names, and wrong inputs. */
public final class PromisesTest {
    private static final Checks CHECKS = new Checks("PromisesTest");
    private static final String FULL = "(a(b)[c]d)e(f[g)h]i)((((((((((jk))))))))))zzzzzz";

    public static void main(String[] args) {
        newObject();
        feed();
        cut();
        set();
        sizeAndByteAt();
        setEscape();
        setWord();
        setKind();
        setLenient();
        quickChoosesWords();
        quickNests();
        quickRecovers();
        quickEscapes();
        bestPairs();
        bestPrefers();
        bestIsAllowed();
        bestOfManyMarks();
        hasReading();
        readingIsKept();
        marks();
        noReading();
        islandsTell();
        at();
        count();
        waterAndShare();
        left();
        digest();
        CHECKS.end();
    }

    private static IslandParser brackets() {
        return Parsers.with("(", ")", "[", "]");
    }

    private static IslandParser read(String text) {
        IslandParser parser = brackets();
        Parsers.feed(parser, text);
        parser.quick();
        return parser;
    }

    private static void newObject() {
        CHECKS.part("promise 1");
        IslandParser parser = new IslandParser();
        CHECKS.same("size", parser.size(), 0);
        CHECKS.same("hasReading", parser.hasReading(), false);
        CHECKS.same("markCount", parser.markCount(), 0);
        CHECKS.same("digest", parser.digest(), firstDigest());
        CHECKS.same("the escape byte", parser.setEscape(-1), -1);
        CHECKS.same("lenient", parser.setLenient(true), true);
        for (int kind = 0; kind < 6; kind++) {
            CHECKS.same("the inner set", parser.setKind(kind, false, true, 63), 63);
            CHECKS.same("no word is set", parser.setWord(kind, true, 'x', 1), false);
        }
        CHECKS.same("the digest of what a new object is like", parser.digest(), firstDigest());
        Parsers.feed(parser, "xx");
        CHECKS.same("kinds without an opening word are not looked for", parser.quick(), 0);
        CHECKS.same("nor are their marks", parser.markCount(), 0);
    }

    private static long firstDigest() {
        long d = 109;
        d = d * 31;
        d = d * 31 - 1;
        d = d * 31 + 1;
        for (int kind = 0; kind < 6; kind++) {
            d = (((d * 31) * 31) * 31 + 1) * 31 + 63;
        }
        return d;
    }

    private static void feed() {
        CHECKS.part("promise 2");
        IslandParser parser = brackets();
        CHECKS.same("eight bytes", parser.feed(Parsers.packed("abcdefgh")), 8);
        CHECKS.same("the highest first", Parsers.text(parser), "abcdefgh");
        CHECKS.same("nothing", parser.feed(0), 8);
        CHECKS.same("zeros at the front, in the middle and behind", parser.feed(0x0041_0000_4200_4300L), 11);
        CHECKS.same("without the zeros", Parsers.text(parser), "abcdefghABC");
        CHECKS.same("the lowest and the highest byte", parser.feed(0x20_7EL), 13);
        CHECKS.fails("a byte of 1", parser, Checks.ARGUMENT, () -> parser.feed(1));
        CHECKS.fails("a byte of 31", parser, Checks.ARGUMENT, () -> parser.feed(0x411FL));
        CHECKS.fails("a byte of 127", parser, Checks.ARGUMENT, () -> parser.feed(0x7F41L));
        CHECKS.fails("a byte of 160", parser, Checks.ARGUMENT, () -> parser.feed(0xA041L));
        CHECKS.fails("a highest byte of 128", parser, Checks.ARGUMENT, () -> parser.feed(Long.MIN_VALUE));
        CHECKS.fails("all bytes 255", parser, Checks.ARGUMENT, () -> parser.feed(-1L));
        Parsers.reset(parser, FULL.substring(0, 47));
        parser.quick();
        CHECKS.fails("one byte too many", parser, Checks.STATE, () -> parser.feed(0x4142L));
        CHECKS.fails("both wrong", parser, Checks.ARGUMENT, () -> parser.feed(0x414201L));
        CHECKS.same("the last byte", parser.feed('z'), 48);
        CHECKS.same("the text", Parsers.text(parser), FULL);
        CHECKS.fails("the 49th byte", parser, Checks.STATE, () -> parser.feed('z'));
        CHECKS.fails("a wrong 49th byte", parser, Checks.ARGUMENT, () -> parser.feed(7));
        CHECKS.same("nothing into the full text", parser.feed(0), 48);
    }

    private static void cut() {
        CHECKS.part("promise 3");
        IslandParser parser = brackets();
        Parsers.feed(parser, "abcdef");
        CHECKS.same("two", parser.cut(2), 4);
        CHECKS.same("the last ones go", Parsers.text(parser), "abcd");
        CHECKS.same("none", parser.cut(0), 4);
        CHECKS.fails("a negative number", parser, Checks.ARGUMENT, () -> parser.cut(-1));
        CHECKS.fails("the least number", parser, Checks.ARGUMENT, () -> parser.cut(Integer.MIN_VALUE));
        CHECKS.fails("one too many", parser, Checks.ARGUMENT, () -> parser.cut(5));
        CHECKS.fails("the greatest number", parser, Checks.ARGUMENT, () -> parser.cut(Integer.MAX_VALUE));
        CHECKS.same("all", parser.cut(4), 0);
        CHECKS.same("none of none", parser.cut(0), 0);
        CHECKS.fails("one of none", parser, Checks.ARGUMENT, () -> parser.cut(1));
        Parsers.feed(parser, "((");
        parser.cut(1);
        CHECKS.same("a cut byte is no mark", parser.markCount(), 1);
    }

    private static void set() {
        CHECKS.part("promise 4");
        IslandParser parser = brackets();
        CHECKS.fails("in an empty text", parser, Checks.INDEX, () -> parser.set(0, 'x'));
        Parsers.feed(parser, "abc");
        CHECKS.same("the first", parser.set(0, 32), (int) 'a');
        CHECKS.same("the last", parser.set(2, 126), (int) 'c');
        CHECKS.same("again", parser.set(2, '('), 126);
        CHECKS.same("the text", Parsers.text(parser), " b(");
        CHECKS.same("the mark", parser.mark(0), 2);
        CHECKS.fails("ahead of the text", parser, Checks.INDEX, () -> parser.set(-1, 'x'));
        CHECKS.fails("behind the text", parser, Checks.INDEX, () -> parser.set(3, 'x'));
        CHECKS.fails("far behind", parser, Checks.INDEX, () -> parser.set(48, 'x'));
        CHECKS.fails("31", parser, Checks.ARGUMENT, () -> parser.set(0, 31));
        CHECKS.fails("127", parser, Checks.ARGUMENT, () -> parser.set(0, 127));
        CHECKS.fails("0", parser, Checks.ARGUMENT, () -> parser.set(0, 0));
        CHECKS.fails("a byte and more", parser, Checks.ARGUMENT, () -> parser.set(0, 256 + 65));
        CHECKS.fails("both wrong", parser, Checks.INDEX, () -> parser.set(3, 31));
    }

    private static void sizeAndByteAt() {
        CHECKS.part("promises 5 and 6");
        IslandParser parser = brackets();
        CHECKS.fails("byteAt in an empty text", parser, Checks.INDEX, () -> parser.byteAt(0));
        Parsers.feed(parser, FULL);
        CHECKS.same("the full size", parser.size(), 48);
        CHECKS.same("the first byte", parser.byteAt(0), (int) '(');
        CHECKS.same("the last byte", parser.byteAt(47), (int) 'z');
        CHECKS.fails("byteAt 48", parser, Checks.INDEX, () -> parser.byteAt(48));
        parser.cut(40);
        CHECKS.same("the size", parser.size(), 8);
        CHECKS.same("the last byte now", parser.byteAt(7), (int) ']');
        CHECKS.fails("byteAt a cut place", parser, Checks.INDEX, () -> parser.byteAt(8));
        CHECKS.fails("byteAt -1", parser, Checks.INDEX, () -> parser.byteAt(-1));
        CHECKS.fails("byteAt the least", parser, Checks.INDEX, () -> parser.byteAt(Integer.MIN_VALUE));
    }

    private static void setEscape() {
        CHECKS.part("promise 7");
        IslandParser parser = brackets();
        CHECKS.same("the first", parser.setEscape(32), -1);
        CHECKS.same("the second", parser.setEscape(126), 32);
        CHECKS.fails("31", parser, Checks.ARGUMENT, () -> parser.setEscape(31));
        CHECKS.fails("127", parser, Checks.ARGUMENT, () -> parser.setEscape(127));
        CHECKS.fails("-2", parser, Checks.ARGUMENT, () -> parser.setEscape(-2));
        CHECKS.fails("0", parser, Checks.ARGUMENT, () -> parser.setEscape(0));
        CHECKS.same("none", parser.setEscape(-1), 126);
        CHECKS.same("none again", parser.setEscape(-1), -1);
    }

    private static void setWord() {
        CHECKS.part("promise 8");
        IslandParser parser = new IslandParser();
        CHECKS.same("an opening word alone", parser.setWord(5, false, 'a', 1), false);
        CHECKS.same("both words", parser.setWord(5, true, 'b', 1), true);
        CHECKS.same("the reading", Parsers.quick(parser, "ab"), "5:0-2w left 0");
        CHECKS.same("no opening word", parser.setWord(5, false, 'a', 0), false);
        CHECKS.same("not complete, not looked for", Parsers.quick(parser, "ab"), "left 0");
        CHECKS.same("no word at all", parser.setWord(5, true, 0, 0), false);
        CHECKS.same("a closing word alone", parser.setWord(0, true, 'c', 1), false);
        CHECKS.same("the opening word then", parser.setWord(0, false, 'a', 1), true);
        CHECKS.same("another one", parser.setWord(0, false, 'd', 1), true);
        CHECKS.same("the word is replaced", Parsers.quick(parser, "acdc"), "0:2-4w left 0");
        CHECKS.same("the last byte is the lowest", parser.setWord(0, false, 0x616263, 3), true);
        CHECKS.same("three bytes in order", Parsers.quick(parser, "cbaabcc"), "0:3-7w left 0");
        CHECKS.same("higher bytes are not looked at", parser.setWord(0, false, 0xFF00_0061, 1), true);
        CHECKS.same("one byte", Parsers.quick(parser, "bac"), "0:1-3w left 0");
        CHECKS.same("nor a fourth one", parser.setWord(0, false, 0x80_616263, 3), true);
        CHECKS.same("two lower ones", parser.setWord(0, false, 0x00_00_6162, 2), true);
        CHECKS.same("two bytes", Parsers.quick(parser, "babc"), "0:1-4w left 0");
        CHECKS.same("the least and the greatest byte", parser.setWord(0, true, 0x20_7E, 2), true);
        CHECKS.same("their reading", Parsers.quick(parser, "ab ~"), "0:0-4w left 0");
        wrongWords(parser);
    }

    private static void wrongWords(IslandParser parser) {
        CHECKS.fails("kind -1", parser, Checks.INDEX, () -> parser.setWord(-1, false, 'a', 1));
        CHECKS.fails("kind 6", parser, Checks.INDEX, () -> parser.setWord(6, true, 'a', 1));
        CHECKS.fails("all wrong", parser, Checks.INDEX, () -> parser.setWord(6, true, 0, 4));
        CHECKS.fails("-1 bytes", parser, Checks.ARGUMENT, () -> parser.setWord(0, true, 'a', -1));
        CHECKS.fails("4 bytes", parser, Checks.ARGUMENT, () -> parser.setWord(0, true, 0x61616161, 4));
        CHECKS.fails("many bytes", parser, Checks.ARGUMENT,
                () -> parser.setWord(0, true, 0x61616161, Integer.MAX_VALUE));
        CHECKS.fails("a byte of 0", parser, Checks.ARGUMENT, () -> parser.setWord(0, true, 'a', 2));
        CHECKS.fails("a byte of 31", parser, Checks.ARGUMENT, () -> parser.setWord(0, true, 0x611F, 2));
        CHECKS.fails("a byte of 127", parser, Checks.ARGUMENT, () -> parser.setWord(0, true, 0x7F6161, 3));
        CHECKS.fails("a byte of 225", parser, Checks.ARGUMENT, () -> parser.setWord(0, true, 0xE1, 1));
        CHECKS.same("the word is still there", Parsers.quick(parser, "ab ~"), "0:0-4w left 0");
    }

    private static void setKind() {
        CHECKS.part("promise 9");
        IslandParser parser = brackets();
        CHECKS.same("the first", parser.setKind(0, false, true, 2), 63);
        CHECKS.same("the second", parser.setKind(0, false, true, 0), 2);
        CHECKS.same("the same", parser.setKind(0, false, true, 63), 0);
        CHECKS.same("another kind", parser.setKind(5, true, false, 0), 63);
        CHECKS.fails("kind -1", parser, Checks.INDEX, () -> parser.setKind(-1, true, true, 0));
        CHECKS.fails("kind 6", parser, Checks.INDEX, () -> parser.setKind(6, true, true, 0));
        CHECKS.fails("both wrong", parser, Checks.INDEX, () -> parser.setKind(6, true, true, 64));
        CHECKS.fails("inner -1", parser, Checks.ARGUMENT, () -> parser.setKind(0, true, false, -1));
        CHECKS.fails("inner 64", parser, Checks.ARGUMENT, () -> parser.setKind(0, true, false, 64));
        CHECKS.same("all can stand in all", Parsers.quick(parser, "([()])"), "0:0-6w 1:1-5w 0:2-4w left 0");
        parser.setKind(0, false, true, 1);
        CHECKS.same("1 not in 0", Parsers.quick(parser, "([()])[]"), "0:0-6w 0:2-4w 1:6-8w left 0");
        parser.setKind(0, false, false, 63);
        CHECKS.same("0 not outside", Parsers.quick(parser, "()[()]"), "1:2-6w 0:3-5w left 0");
        parser.setKind(1, true, true, 63);
        CHECKS.same("nothing in a raw one", Parsers.quick(parser, "[(][]"), "1:0-3w 1:3-5w left 0");
        parser.setKind(1, false, true, 63);
        CHECKS.same("not raw again", Parsers.quick(parser, "[()]"), "1:0-4w 0:1-3w left 0");
        parser.setKind(0, false, true, 63);
        CHECKS.same("outside again", Parsers.quick(parser, "()"), "0:0-2w left 0");
    }

    private static void setLenient() {
        CHECKS.part("promise 10");
        IslandParser parser = brackets();
        CHECKS.same("lenient at first", parser.setLenient(true), true);
        CHECKS.same("still", parser.setLenient(false), true);
        CHECKS.same("not now", parser.setLenient(false), false);
        CHECKS.same("nor now", parser.setLenient(true), false);
        CHECKS.same("lenient", Parsers.quick(parser, "([)]"), "0:0-3w 1:1-2b left 0");
        parser.setLenient(false);
        CHECKS.same("not lenient", Parsers.quick(parser, "([)]"), "0:0-4u 1:1-4w left 1");
    }

    private static void quickChoosesWords() {
        CHECKS.part("promise 11, the choice of words");
        IslandParser longer = Parsers.with("a", "b", "aa", "bb", "aaa", "bbb");
        CHECKS.same("the longest opening word", Parsers.quick(longer, "aaabbb"), "2:0-6w left 0");
        CHECKS.same("two of three", Parsers.quick(longer, "aabb"), "1:0-4w left 0");
        CHECKS.same("a longer one is not there", Parsers.quick(longer, "aa"), "1:0-2u left 0");
        CHECKS.same("own closing word is shorter than an outer one", Parsers.quick(longer, "aacabb"),
                "1:0-6w 0:3-4b left 0");
        IslandParser quotes = Parsers.with("'", "'", "'", "'");
        CHECKS.same("closing before opening", Parsers.quick(quotes, "''''"), "0:0-2w 0:2-4w left 0");
        IslandParser twins = Parsers.with("x", "1", "(", ")", "(", "]", "(", "}");
        CHECKS.same("the smaller kind", Parsers.quick(twins, "(}])"), "1:0-4w left 0");
        twins.setKind(1, false, false, 63);
        CHECKS.same("the smaller kind that can stand here", Parsers.quick(twins, "()]"), "2:0-3w left 0");
        IslandParser mixed = Parsers.with("<", ">", "[", "]", ">", "!");
        CHECKS.same("opening before an outer closing", Parsers.quick(mixed, "<[>!]>"),
                "0:0-6w 1:1-5w 2:2-4w left 0");
        IslandParser later = Parsers.with("<", ")", "[", "]", "{", ")");
        CHECKS.same("the island that was opened later", Parsers.quick(later, "<{[)"),
                "0:0-4u 2:1-4w 1:2-3b left 0");
        IslandParser longClose = Parsers.with("<", ">>", "[", ">");
        CHECKS.same("an outer closing word that is longer", Parsers.quick(longClose, "<[>>"),
                "0:0-4w 1:1-2b left 0");
        IslandParser longOpen = Parsers.with("<", ">", "><", "!");
        CHECKS.same("an opening word that is longer", Parsers.quick(longOpen, "<><!>"),
                "0:0-5w 1:1-4w left 0");
        IslandParser prefix = Parsers.with("<", ">>", ">", "!");
        CHECKS.same("a shorter word at the same place is left", Parsers.quick(prefix, "<>>x"),
                "0:0-3w left 0");
        IslandParser incomplete = Parsers.with("<", null, "<", ">", null, "!");
        CHECKS.same("not complete", Parsers.quick(incomplete, "<!>"), "1:0-3w left 0");
    }

    private static void quickNests() {
        CHECKS.part("promise 11, islands inside one another");
        IslandParser parser = brackets();
        CHECKS.same("no text", Parsers.quick(parser, ""), "left 0");
        CHECKS.same("no words", Parsers.quick(parser, "abc"), "left 0");
        CHECKS.same("the number of islands", Parsers.reset(parser, "x(y(z)[])").quick(), 3);
        CHECKS.same("eight and no more", Parsers.quick(parser, "(((((((((([))))))))))"),
                "0:0-19w 0:1-18w 0:2-17w 0:3-16w 0:4-15w 0:5-14w 0:6-13w 0:7-12w left 0");
        CHECKS.same("again after an end", Parsers.quick(parser, "(((((((()("),
                "0:0-10u 0:1-10u 0:2-10u 0:3-10u 0:4-10u 0:5-10u 0:6-10u 0:7-9w 0:9-10u left 0");
        CHECKS.same("unfinished ones", Parsers.quick(parser, "a([b"), "0:1-4u 1:2-4u left 0");
        CHECKS.same("a closing word outside is nothing", Parsers.quick(parser, ")]()"), "0:2-4w left 0");
        IslandParser outerAtDepth = Parsers.with("(", ")", "<", ">", "|", ">");
        CHECKS.same("outer closing words at eight", Parsers.quick(outerAtDepth, "<((((((((>"),
                "1:0-10w 0:1-9b 0:2-9b 0:3-9b 0:4-9b 0:5-9b 0:6-9b 0:7-9b left 0");
        IslandParser opensAndCloses = Parsers.with("(", ")", "[", "|", "|", "!");
        CHECKS.same("a word that opens is not looked at with eight",
                Parsers.quick(opensAndCloses, "[(((((((|"),
                "1:0-9w 0:1-8b 0:2-8b 0:3-8b 0:4-8b 0:5-8b 0:6-8b 0:7-8b left 0");
        CHECKS.same("but with seven", Parsers.quick(opensAndCloses, "[((((((|"),
                "1:0-8u 0:1-8u 0:2-8u 0:3-8u 0:4-8u 0:5-8u 0:6-8u 2:7-8u left 0");
        StringBuilder all = new StringBuilder();
        for (int i = 0; i < 24; i++) {
            all.append("0:").append(2 * i).append('-').append(2 * i + 2).append("w ");
        }
        CHECKS.same("islands through a full text", Parsers.quick(parser, "()".repeat(24)), all + "left 0");
    }

    private static void quickRecovers() {
        CHECKS.part("promise 11, what does not fit");
        IslandParser parser = Parsers.with("(", ")", "[", "]", "/*", "*/");
        parser.setKind(2, true, true, 63);
        CHECKS.same("two given up at once", Parsers.quick(parser, "([(x[y]([)"),
                "0:0-10u 1:1-10u 0:2-10u 1:4-7w 0:7-10w 1:8-9b left 0");
        CHECKS.same("given up through several", Parsers.quick(parser, "([[[)x"),
                "0:0-5w 1:1-4b 1:2-4b 1:3-4b left 0");
        CHECKS.same("no outer closing word in a raw island", Parsers.quick(parser, "(/*)*/)"),
                "0:0-7w 2:1-6w left 0");
        CHECKS.same("a raw island that does not end", Parsers.quick(parser, "(/*)"), "0:0-4u 2:1-4u left 0");
        parser.setLenient(false);
        CHECKS.same("stray words", Parsers.quick(parser, "([)))])"), "0:0-7w 1:1-6w left 3");
        CHECKS.same("none in a raw island", Parsers.quick(parser, "(/*)))"), "0:0-6u 2:1-6u left 0");
        IslandParser longStray = Parsers.with("<", ">>>", "[", "]");
        longStray.setLenient(false);
        CHECKS.same("it goes on behind a stray word", Parsers.quick(longStray, "<[>>>>>]"),
                "0:0-8u 1:1-8w left 1");
        CHECKS.same("a reading begins anew", Parsers.quick(longStray, "<>>>"), "0:0-4w left 0");
    }

    private static void quickEscapes() {
        CHECKS.part("promise 11, escape bytes");
        IslandParser parser = Parsers.with("(", ")", "[[", "]]", "a\\", "\\");
        CHECKS.same("none at first", Parsers.quick(parser, "\\()"), "0:1-3w left 0");
        parser.setEscape('\\');
        CHECKS.same("an escaped word", Parsers.quick(parser, "\\()(\\))"), "0:3-7w left 0");
        CHECKS.same("an escaped escape byte", Parsers.quick(parser, "\\\\()"), "0:2-4w left 0");
        CHECKS.same("three of them", Parsers.quick(parser, "\\\\\\()"), "left 0");
        CHECKS.same("at the end", Parsers.quick(parser, "()\\"), "0:0-2w left 0");
        CHECKS.same("at the end of an island", Parsers.quick(parser, "(\\"), "0:0-2u left 0");
        CHECKS.same("in a word", Parsers.quick(parser, "[\\[[]]"), "left 0");
        CHECKS.same("behind the first byte of a word", Parsers.quick(parser, "[[]\\]]"), "1:0-6u left 0");
        CHECKS.same("no word with an escape byte", Parsers.quick(parser, "a\\xx"), "left 0");
        parser.setKind(0, true, true, 0);
        CHECKS.same("in a raw island too", Parsers.quick(parser, "(\\))"), "0:0-4w left 0");
        parser.setEscape('(');
        CHECKS.same("a word's byte as the escape byte", Parsers.quick(parser, "(()) [[]]"), "1:5-9w left 0");
        parser.setEscape(-1);
        CHECKS.same("none again", Parsers.quick(parser, "(a)"), "0:0-3w left 0");
        CHECKS.same("its word is looked for again", Parsers.quick(parser, "a\\\\"), "2:0-3w left 0");
    }

    private static void bestPairs() {
        CHECKS.part("promise 12, pairs");
        IslandParser parser = Parsers.with("(", ")", "[", "]", "'", "'");
        CHECKS.same("no text", Parsers.best(parser, ""), "left 0");
        CHECKS.same("no marks", Parsers.best(parser, "abc"), "left 0");
        CHECKS.same("unused marks are returned", Parsers.reset(parser, "(()])]").best(), 2);
        CHECKS.same("nested", Parsers.best(parser, "x([y]())"), "0:1-8w 1:2-5w 0:5-7w left 0");
        CHECKS.same("pairs do not cross", Parsers.best(parser, "([)]"), "0:0-3w left 2");
        CHECKS.same("an unused first mark that saves two", Parsers.best(parser, "([()]"),
                "1:1-5w 0:2-4w left 1");
        CHECKS.same("nothing closes ahead", Parsers.best(parser, ")("), "left 2");
        CHECKS.same("quotes", Parsers.best(parser, "'a'b'"), "2:0-3w left 1");
        CHECKS.same("all quotes", Parsers.best(parser, "''''"), "2:0-2w 2:2-4w left 0");
        CHECKS.same("a long word's end", Parsers.best(Parsers.with("<!", "!!>"), "a<!b!!>c"),
                "0:1-7w left 0");
        CHECKS.same("no lenience is needed", Parsers.best(parser, "(('()')"), "0:0-7w 2:2-6w 0:3-5w left 1");
        parser.setLenient(false);
        CHECKS.same("nor looked at", Parsers.best(parser, "([)]"), "0:0-3w left 2");
        IslandParser unknown = Parsers.with("(", null, "[", "]");
        CHECKS.same("a kind that is not complete", Parsers.best(unknown, "([)]"), "1:1-4w left 0");
        IslandParser oneWord = Parsers.with("ab", "b", "b", "c");
        CHECKS.same("a mark is the longest word", Parsers.best(oneWord, "abcb"), "0:0-4w left 1");
    }

    private static void bestPrefers() {
        CHECKS.part("promise 12, of several best readings");
        IslandParser parser = brackets();
        CHECKS.same("the first mark opens", Parsers.best(parser, "(()"), "0:0-3w left 1");
        CHECKS.same("the nearer partner", Parsers.best(parser, "())"), "0:0-2w left 1");
        CHECKS.same("opening first, then nearer", Parsers.best(parser, "([)(])"),
                "0:0-3w 0:3-6w left 2");
        IslandParser twins = Parsers.with("<", ">", "<", ">", "<", "!");
        CHECKS.same("the smaller kind", Parsers.best(twins, "<>"), "0:0-2w left 0");
        CHECKS.same("the smaller kind, then the nearer partner", Parsers.best(twins, "<!>"), "0:0-3w left 1");
        twins.setKind(0, false, false, 63);
        CHECKS.same("the smaller one that is allowed", Parsers.best(twins, "<>"), "1:0-2w left 0");
        CHECKS.same("in it the smallest one again", Parsers.best(twins, "<<>>"), "1:0-4w 0:1-3w left 0");
        IslandParser fewer = Parsers.with("<", ">", "<", "!");
        CHECKS.same("fewer unused go before a smaller kind", Parsers.best(fewer, "<<>!"),
                "1:0-4w 0:1-3w left 0");
        CHECKS.same("equally few do not", Parsers.best(fewer, "<<>>!"), "0:0-4w 0:1-3w left 1");
        IslandParser quotes = Parsers.with("'", "'", "(", ")");
        CHECKS.same("unused first if that is better", Parsers.best(quotes, "'('')"),
                "1:1-5w 0:2-4w left 1");
    }

    private static void bestIsAllowed() {
        CHECKS.part("promise 12, what is allowed");
        IslandParser parser = brackets();
        parser.setKind(0, true, true, 63);
        CHECKS.same("marks in a raw pair are not unused", Parsers.best(parser, "([][()"),
                "0:0-6w left 0");
        CHECKS.same("a farther partner of a raw one that saves more",
                Parsers.best(parser, "([)[])"), "0:0-6w left 0");
        CHECKS.same("raw inside", Parsers.best(parser, "[(])]"), "1:0-5w 0:1-4w left 0");
        IslandParser rawQuotes = Parsers.with("'", "'", "(", ")");
        rawQuotes.setKind(0, true, true, 63);
        CHECKS.same("a mark is no partner of itself", Parsers.best(rawQuotes, "'(')"), "0:0-3w left 1");
        parser.setKind(0, false, true, 1);
        CHECKS.same("1 not directly in 0", Parsers.best(parser, "([])"), "0:0-4w left 2");
        CHECKS.same("nor deeper", Parsers.best(parser, "(([]))"), "0:0-6w 0:1-5w left 2");
        parser.setKind(0, false, true, 2);
        CHECKS.same("0 only in 1 in 0", Parsers.best(parser, "(([()]))"), "0:0-7w 1:2-6w 0:3-5w left 2");
        parser.setKind(0, false, false, 63);
        CHECKS.same("0 not outside", Parsers.best(parser, "()[()]"), "1:2-6w 0:3-5w left 2");
        CHECKS.same("0 alone", Parsers.best(parser, "(()"), "left 3");
        parser.setKind(1, true, true, 63);
        CHECKS.same("0 nowhere", Parsers.best(parser, "()[()]"), "1:2-6w left 2");
        IslandParser escaped = brackets();
        escaped.setEscape('\\');
        CHECKS.same("escaped", Parsers.best(escaped, "(\\)\\\\)"), "0:0-6w left 0");
    }

    private static void bestOfManyMarks() {
        CHECKS.part("promise 12, full texts");
        IslandParser parser = brackets();
        Parsers.reset(parser, "(".repeat(24) + ")".repeat(24));
        CHECKS.same("24 in one another", parser.best(), 0);
        CHECKS.same("all of them", parser.islandCount(), 24);
        CHECKS.same("the deepest", parser.depth(23), 23);
        CHECKS.same("its parent", parser.parent(23), 22);
        Parsers.reset(parser, "(".repeat(48));
        CHECKS.same("all unused", parser.best(), 48);
        CHECKS.same("no island", parser.islandCount(), 0);
        IslandParser alike = Parsers.with("a", "a", "a", "a", "a", "a", "a", "a", "a", "a", "a", "a");
        Parsers.reset(alike, "a".repeat(47));
        CHECKS.same("one of 47 unused", alike.best(), 1);
        CHECKS.same("pairs side by side", alike.islandCount(), 23);
        CHECKS.same("the last one", alike.end(22), 46);
        CHECKS.same("the smallest kind", alike.count(0, 0), 23);
        for (int kind = 0; kind < 6; kind++) {
            alike.setKind(kind, false, kind == 5, 1 << kind >> 1);
        }
        CHECKS.same("each only in the next one", alike.best(), 1);
        CHECKS.same("side by side at the outside", alike.count(5, 0), 23);
        alike.feed('a');
        CHECKS.same("none of 48 unused", alike.best(), 0);
        CHECKS.same("24 islands", alike.islandCount(), 24);
    }

    private static void hasReading() {
        CHECKS.part("promise 13");
        IslandParser parser = new IslandParser();
        CHECKS.same("at first", parser.hasReading(), false);
        parser.quick();
        CHECKS.same("after quick", parser.hasReading(), true);
        parser.feed('a');
        CHECKS.same("after feed", parser.hasReading(), false);
        parser.best();
        CHECKS.same("after best", parser.hasReading(), true);
    }

    private static void readingIsKept() {
        CHECKS.part("how long a reading is kept");
        forgets("feed", parser -> parser.feed('a'));
        forgets("feed nothing", parser -> parser.feed(0));
        forgets("cut", parser -> parser.cut(1));
        forgets("cut nothing", parser -> parser.cut(0));
        forgets("set", parser -> parser.set(0, 'x'));
        forgets("set the same", parser -> parser.set(0, '('));
        forgets("setEscape", parser -> parser.setEscape('e'));
        forgets("setEscape to the same", parser -> parser.setEscape(-1));
        forgets("setWord", parser -> parser.setWord(3, true, 'w', 1) ? 1 : 0);
        forgets("setWord to the same", parser -> parser.setWord(0, false, '(', 1) ? 1 : 0);
        forgets("setWord to none", parser -> parser.setWord(5, false, 0, 0) ? 1 : 0);
        forgets("setKind", parser -> parser.setKind(3, true, false, 0));
        forgets("setKind to the same", parser -> parser.setKind(3, false, true, 63));
        forgets("setLenient", parser -> parser.setLenient(false) ? 1 : 0);
        forgets("setLenient to the same", parser -> parser.setLenient(true) ? 1 : 0);
        IslandParser parser = read("([)]");
        long digest = parser.digest();
        parser.markCount();
        parser.mark(1);
        parser.size();
        parser.byteAt(0);
        CHECKS.same("asking keeps it", parser.digest(), digest);
        CHECKS.same("the quick reading", Parsers.reading(parser), "0:0-3w 1:1-2b left 0");
        parser.best();
        CHECKS.same("the later reading", Parsers.reading(parser), "0:0-3w left 2");
        parser.quick();
        CHECKS.same("the quick one again", Parsers.reading(parser), "0:0-3w 1:1-2b left 0");
    }

    private interface Change {
        int make(IslandParser parser);
    }

    private static void forgets(String what, Change change) {
        IslandParser parser = read("()");
        change.make(parser);
        CHECKS.same("behind quick and " + what, parser.hasReading(), false);
        parser.best();
        change.make(parser);
        CHECKS.same("behind best and " + what, parser.hasReading(), false);
        CHECKS.fails("islandCount behind " + what, parser, Checks.STATE, parser::islandCount);
    }

    private static void marks() {
        CHECKS.part("promises 14 and 15");
        IslandParser parser = Parsers.with("(", ")", "((", "))", "]", null);
        CHECKS.same("no text", parser.markCount(), 0);
        CHECKS.fails("no mark", parser, Checks.INDEX, () -> parser.mark(0));
        CHECKS.same("the longest words", Parsers.marks(parser, "a(b((()))])"), "1 3 5 6 8 10");
        CHECKS.same("no reading is needed", parser.hasReading(), false);
        CHECKS.same("the last mark", parser.mark(5), 10);
        CHECKS.fails("mark 6", parser, Checks.INDEX, () -> parser.mark(6));
        CHECKS.fails("mark -1", parser, Checks.INDEX, () -> parser.mark(-1));
        CHECKS.fails("the least mark", parser, Checks.INDEX, () -> parser.mark(Integer.MIN_VALUE));
        parser.quick();
        CHECKS.same("the same with a reading", parser.markCount(), 6);
        parser.setEscape('b');
        CHECKS.same("escaped", Parsers.marks(parser, "b(bb((b)(b"), "4 8");
        parser.setEscape(-1);
        parser.setKind(0, true, false, 0);
        parser.setKind(1, true, false, 0);
        CHECKS.same("marks need not be allowed", Parsers.marks(parser, "()"), "0 1");
        parser.setWord(2, true, '!', 1);
        CHECKS.same("a kind that is complete now", Parsers.marks(parser, "(])!"), "0 1 2 3");
        parser.setWord(1, false, 0, 0);
        CHECKS.same("one that is not any more", Parsers.marks(parser, "(())"), "0 1 2 3");
        CHECKS.same("a full text", Parsers.reset(parser, "(".repeat(48)).markCount(), 48);
        CHECKS.same("its last mark", parser.mark(47), 47);
        CHECKS.fails("mark 48", parser, Checks.INDEX, () -> parser.mark(48));
    }

    private static void noReading() {
        CHECKS.part("promises 16 to 28 without a reading");
        IslandParser parser = brackets();
        Parsers.feed(parser, "()");
        for (int number : new int[] {0, -1, 99}) {
            CHECKS.fails("kind", parser, Checks.STATE, () -> parser.kind(number));
            CHECKS.fails("start", parser, Checks.STATE, () -> parser.start(number));
            CHECKS.fails("end", parser, Checks.STATE, () -> parser.end(number));
            CHECKS.fails("state", parser, Checks.STATE, () -> parser.state(number));
            CHECKS.fails("parent", parser, Checks.STATE, () -> parser.parent(number));
            CHECKS.fails("depth", parser, Checks.STATE, () -> parser.depth(number));
            CHECKS.fails("own", parser, Checks.STATE, () -> parser.own(number));
            CHECKS.fails("at", parser, Checks.STATE, () -> parser.at(number));
            CHECKS.fails("count of a kind", parser, Checks.STATE, () -> parser.count(number, 0));
            CHECKS.fails("count of a state", parser, Checks.STATE, () -> parser.count(0, number));
        }
        CHECKS.fails("islandCount", parser, Checks.STATE, parser::islandCount);
        CHECKS.fails("water", parser, Checks.STATE, parser::water);
        CHECKS.fails("left", parser, Checks.STATE, parser::left);
        CHECKS.fails("share", parser, Checks.STATE, parser::share);
    }

    private static void islandsTell() {
        IslandParser parser = read("x(ab[c(d]e)f[g(h");
        String[] rows = {"0 1 11 0 -1 0 5", "1 4 9 0 0 1 3", "0 6 8 1 1 2 2", "1 12 16 2 -1 0 2", "0 14 16 2 3 1 2"};
        CHECKS.part("promise 16");
        CHECKS.same("islandCount", parser.islandCount(), rows.length);
        CHECKS.part("promises 17 to 23");
        for (int island = 0; island < rows.length; island++) {
            CHECKS.same("kind, start, end, state, parent, depth and own of " + island,
                    parser.kind(island) + " " + parser.start(island) + " " + parser.end(island) + " "
                            + parser.state(island) + " " + parser.parent(island) + " "
                            + parser.depth(island) + " " + parser.own(island), rows[island]);
        }
        for (int number : new int[] {-1, rows.length, 48, Integer.MAX_VALUE, Integer.MIN_VALUE}) {
            CHECKS.fails("kind " + number, parser, Checks.INDEX, () -> parser.kind(number));
            CHECKS.fails("start " + number, parser, Checks.INDEX, () -> parser.start(number));
            CHECKS.fails("end " + number, parser, Checks.INDEX, () -> parser.end(number));
            CHECKS.fails("state " + number, parser, Checks.INDEX, () -> parser.state(number));
            CHECKS.fails("parent " + number, parser, Checks.INDEX, () -> parser.parent(number));
            CHECKS.fails("depth " + number, parser, Checks.INDEX, () -> parser.depth(number));
            CHECKS.fails("own " + number, parser, Checks.INDEX, () -> parser.own(number));
        }
        parser.best();
        CHECKS.part("promises 16 to 23 of a best reading");
        CHECKS.same("islandCount", parser.islandCount(), 2);
        CHECKS.same("the parent", parser.parent(1), 0);
        CHECKS.same("the depth", parser.depth(1), 1);
        CHECKS.same("own with one inside", parser.own(0), 5);
        CHECKS.same("own without", parser.own(1), 5);
        CHECKS.fails("an island of the reading before", parser, Checks.INDEX, () -> parser.kind(2));
        IslandParser two = read("((a)b(c)d((e)))");
        CHECKS.same("own with several inside", two.own(0), 4);
        CHECKS.same("own counts no bytes twice", two.own(3), 2);
    }

    private static void at() {
        CHECKS.part("promise 24");
        IslandParser parser = read("x(a[b)c(d[]");
        int[] due = {-1, 0, 0, 1, 1, 0, -1, 2, 2, 3, 3};
        for (int place = 0; place < due.length; place++) {
            CHECKS.same("at " + place, parser.at(place), due[place]);
        }
        for (int place : new int[] {-1, due.length, 48, Integer.MAX_VALUE, Integer.MIN_VALUE}) {
            CHECKS.fails("at " + place, parser, Checks.INDEX, () -> parser.at(place));
        }
        parser.best();
        int[] dueThen = {-1, 0, 0, 0, 0, 0, -1, -1, -1, 1, 1};
        for (int place = 0; place < dueThen.length; place++) {
            CHECKS.same("at " + place + " of the next reading, with fewer islands",
                    parser.at(place), dueThen[place]);
        }
        Parsers.reset(parser, "").quick();
        CHECKS.fails("at 0 of an empty text", parser, Checks.INDEX, () -> parser.at(0));
    }

    private static void count() {
        CHECKS.part("promise 25");
        IslandParser parser = read("()([)[]([()");
        int[][] due = {{3, 0, 1}, {1, 1, 1}, {0, 0, 0}, {0, 0, 0}, {0, 0, 0}, {0, 0, 0}};
        for (int kind = 0; kind < 6; kind++) {
            for (int state = 0; state < 3; state++) {
                CHECKS.same("count " + kind + " " + state, parser.count(kind, state), due[kind][state]);
            }
        }
        CHECKS.fails("kind -1", parser, Checks.INDEX, () -> parser.count(-1, 0));
        CHECKS.fails("kind 6", parser, Checks.INDEX, () -> parser.count(6, 0));
        CHECKS.fails("state -1", parser, Checks.INDEX, () -> parser.count(0, -1));
        CHECKS.fails("state 3", parser, Checks.INDEX, () -> parser.count(0, 3));
    }

    private static void waterAndShare() {
        CHECKS.part("promises 26 and 28");
        IslandParser parser = read("a(b[c])d[e");
        CHECKS.same("water", parser.water(), 2);
        CHECKS.same("share", parser.share(), 0.8);
        Parsers.reset(parser, "abc").quick();
        CHECKS.same("water alone", parser.water(), 3);
        CHECKS.same("no share", parser.share(), 0.0);
        Parsers.reset(parser, "([)").best();
        CHECKS.same("no water", parser.water(), 0);
        CHECKS.same("all", parser.share(), 1.0);
        Parsers.reset(parser, "()x").best();
        CHECKS.same("two of three", parser.share(), 2.0 / 3.0);
        Parsers.reset(parser, "").best();
        CHECKS.same("water of an empty text", parser.water(), 0);
        CHECKS.same("share of an empty text", parser.share(), 0.0);
    }

    private static void left() {
        CHECKS.part("promise 27");
        IslandParser parser = read("([))");
        CHECKS.same("none if lenient", parser.left(), 0);
        parser.setLenient(false);
        parser.quick();
        CHECKS.same("stray words", parser.left(), 2);
        parser.best();
        CHECKS.same("unused marks", parser.left(), 2);
        Parsers.reset(parser, "))]").best();
        CHECKS.same("all unused", parser.left(), 3);
        parser.quick();
        CHECKS.same("not stray outside", parser.left(), 0);
    }

    private static void digest() {
        CHECKS.part("promise 29");
        IslandParser parser = read("([)");
        parser.setLenient(false);
        parser.setEscape('e');
        parser.setKind(1, true, false, 5);
        parser.setKind(5, true, true, 0);
        int[] state = {3, '(', '[', ')', 'e', 0, 1, 0, 1, 63, 1, 1, 0, 5, 0, 0, 1, 63, 0, 0, 1, 63,
            0, 0, 1, 63, 0, 1, 1, 0};
        CHECKS.same("without a reading", parser.digest(), mixed(109, state));
        parser.quick();
        CHECKS.same("with a quick one", parser.digest(),
                mixed(mixed(109, state), 2, 0, 0, 3, 2, 1, 1, 3, 2, 0));
        parser.best();
        CHECKS.same("with a best one", parser.digest(), mixed(mixed(109, state), 1, 0, 0, 3, 0, 1));
        parser.cut(3);
        parser.quick();
        CHECKS.same("with an empty one", parser.digest(), mixed(mixed(mixed(109, 0),
                java.util.Arrays.copyOfRange(state, 4, state.length)), 0, 0));
    }

    private static long mixed(long before, int... numbers) {
        long d = before;
        for (int number : numbers) {
            d = d * 31 + number;
        }
        return d;
    }
}

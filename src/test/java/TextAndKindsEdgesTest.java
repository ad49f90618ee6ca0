/**
 * The sentences of the document on the text, the escape byte and the kinds that name a range, a first
 * value or an edge, and promises 1 to 10. Calls that are refused are in RefusedCallsTest.
 */
public final class TextAndKindsEdgesTest {
    private static final Checks CHECKS = new Checks("TextAndKindsEdgesTest");
    private static final String LETTERS = "abcdefghijklmnopqrstuvwxyzABCDEFGHIJKLMNOPQRSTUVWXYZ";

    public static void main(String[] args) {
        newObject();
        textOf48();
        allBytes();
        zerosInFeed();
        cutAll();
        cutBytesAreGone();
        setEachPlace();
        noEscapeAtFirst();
        escapeAtTheEnd();
        escapesBehindEscapes();
        escapesInWords();
        escapeBytes();
        sixKinds();
        wordLengths();
        wordBytes();
        sameWords();
        incompleteKinds();
        whatKindsAreLikeAtFirst();
        innerSets();
        outside();
        rawIslands();
        lenience();
        CHECKS.end();
    }

    private static void newObject() {
        CHECKS.part("promise 1: an empty text, without words, without a reading");
        IslandParser parser = new IslandParser();
        CHECKS.same("size", parser.size(), 0);
        CHECKS.same("byteAt 0", Checks.outcome(() -> parser.byteAt(0)), "throws IndexOutOfBoundsException");
        CHECKS.same("hasReading", parser.hasReading(), false);
        CHECKS.same("islandCount", Checks.outcome(parser::islandCount), "throws IllegalStateException");
        CHECKS.same("markCount", parser.markCount(), 0);
        CHECKS.same("cut nothing", parser.cut(0), 0);
        CHECKS.same("the quick reading", parser.quick(), 0);
        CHECKS.same("the best reading", parser.best(), 0);
        for (char sign = 32; sign <= 126; sign++) {
            Parsers.reset(parser, String.valueOf(sign).repeat(3));
            CHECKS.same("marks of '" + sign + "'", parser.markCount(), 0);
            CHECKS.same("islands of '" + sign + "'", parser.quick(), 0);
        }
        CHECKS.same("objects are apart", new IslandParser().size(), 0);
    }

    private static void textOf48() {
        CHECKS.part("text: at most 48 bytes, whose places are numbered from 0");
        IslandParser parser = new IslandParser();
        for (int size = 1; size <= 48; size++) {
            CHECKS.same("feed", parser.feed(LETTERS.charAt(size - 1)), size);
            CHECKS.same("size", parser.size(), size);
        }
        for (int place = 0; place < 48; place++) {
            CHECKS.same("byteAt " + place, parser.byteAt(place), (int) LETTERS.charAt(place));
        }
        CHECKS.same("nothing more", parser.feed(0), 48);
        CHECKS.same("room again", parser.cut(8), 40);
        CHECKS.same("for eight", parser.feed(Parsers.packed("12345678")), 48);
        CHECKS.same("the text", Parsers.text(parser), LETTERS.substring(0, 40) + "12345678");
    }

    private static void allBytes() {
        CHECKS.part("promise 2, 4 and 6: bytes 32 to 126");
        for (int value = 0; value < 256; value++) {
            boolean isRight = value >= 32 && value <= 126;
            for (int shift = 0; shift < 64; shift += 8) {
                IslandParser parser = new IslandParser();
                long bytes = (long) value << shift;
                String want = isRight ? "1" : value == 0 ? "0" : "throws IllegalArgumentException";
                CHECKS.same("feed " + bytes, Checks.outcome(() -> parser.feed(bytes)), want);
                CHECKS.same("the text", Parsers.text(parser), isRight ? "" + (char) value : "");
            }
            IslandParser parser = new IslandParser();
            parser.feed('a');
            int byteValue = value;
            CHECKS.same("set " + value, Checks.outcome(() -> parser.set(0, byteValue)),
                    isRight ? "" + (int) 'a' : "throws IllegalArgumentException");
            CHECKS.same("byteAt", parser.byteAt(0), isRight ? value : 'a');
        }
    }

    private static void zerosInFeed() {
        CHECKS.part("promise 2: the highest one first, without those that are 0");
        for (int present = 0; present < 256; present++) {
            long bytes = 0;
            StringBuilder want = new StringBuilder("x");
            for (int i = 0; i < 8; i++) {
                boolean isPresent = (present >> (7 - i) & 1) == 1;
                bytes = bytes << 8 | (isPresent ? LETTERS.charAt(i) : 0);
                want.append(isPresent ? "" + LETTERS.charAt(i) : "");
            }
            IslandParser parser = new IslandParser();
            parser.feed('x');
            CHECKS.same("feed " + bytes, parser.feed(bytes), want.length());
            CHECKS.same("the text", Parsers.text(parser), want.toString());
        }
    }

    private static void cutAll() {
        CHECKS.part("promise 3: none, all and each number between");
        for (int size = 0; size <= 48; size++) {
            for (int many = 0; many <= size; many++) {
                IslandParser parser = new IslandParser();
                Parsers.feed(parser, LETTERS.substring(0, size));
                CHECKS.same("cut " + many + " of " + size, parser.cut(many), size - many);
                CHECKS.same("the text", Parsers.text(parser), LETTERS.substring(0, size - many));
            }
        }
    }

    private static void cutBytesAreGone() {
        CHECKS.part("promise 3: cut bytes are no part of the text");
        IslandParser parser = Parsers.with("(", ")", "<!-", "->");
        Parsers.feed(parser, "(<!-a->)");
        parser.cut(1);
        CHECKS.same("without ')'", quick(parser), "0:0-7u 1:1-7w left 0");
        parser.cut(1);
        CHECKS.same("with half of '->'", quick(parser), "0:0-6u 1:1-6u left 0");
        CHECKS.same("marks", parser.markCount(), 2);
        parser.cut(3);
        CHECKS.same("with two thirds of '<!-'", quick(parser), "0:0-3u left 0");
        CHECKS.same("marks", parser.markCount(), 1);
        CHECKS.same("unused", parser.best(), 1);
        parser.feed('-');
        CHECKS.same("with all of it again", quick(parser), "0:0-4u 1:1-4u left 0");
        parser.cut(4);
        CHECKS.same("nothing", quick(parser), "left 0");
        CHECKS.same("no marks", parser.markCount(), 0);
    }

    private static void setEachPlace() {
        CHECKS.part("promise 4: each place of a full text");
        IslandParser parser = new IslandParser();
        Parsers.feed(parser, LETTERS.substring(0, 48));
        for (int place = 0; place < 48; place++) {
            CHECKS.same("set " + place, parser.set(place, place % 2 == 0 ? 32 : 126),
                    (int) LETTERS.charAt(place));
            CHECKS.same("byteAt " + place, parser.byteAt(place), place % 2 == 0 ? 32 : 126);
        }
        CHECKS.same("the size", parser.size(), 48);
        CHECKS.same("the text", Parsers.text(parser), " ~".repeat(24));
    }

    private static void noEscapeAtFirst() {
        CHECKS.part("text: an escape byte, or none (at first)");
        CHECKS.same("none", new IslandParser().setEscape('x'), -1);
        for (char sign = 32; sign <= 126; sign++) {
            if (sign != '(' && sign != ')') {
                IslandParser parser = Parsers.with("(", ")");
                CHECKS.same("'" + sign + "' escapes nothing", Parsers.quick(parser, sign + "()"), "0:1-3w left 0");
            }
        }
    }

    private static void escapeAtTheEnd() {
        CHECKS.part("text: an escape byte and the byte behind it (if there is one)");
        IslandParser parser = Parsers.with("(", ")");
        parser.setEscape('\\');
        CHECKS.same("an escape byte alone", Parsers.quick(parser, "\\"), "left 0");
        CHECKS.same("its marks", Parsers.marks(parser, "\\"), "");
        CHECKS.same("its best reading", Parsers.best(parser, "\\"), "left 0");
        String full = "(" + "x".repeat(46) + "\\";
        CHECKS.same("at place 47", Parsers.quick(parser, full), "0:0-48u left 0");
        CHECKS.same("its mark", Parsers.marks(parser, full), "0");
        CHECKS.same("its unused mark", Parsers.best(parser, full), "left 1");
        Parsers.reset(parser, "(\\");
        parser.feed(')');
        CHECKS.same("the byte behind it came later", quick(parser), "0:0-3u left 0");
        parser.feed(')');
        CHECKS.same("the next one is not escaped", quick(parser), "0:0-4w left 0");
        parser.set(1, 'x');
        CHECKS.same("nothing is escaped any more", quick(parser), "0:0-3w left 0");
        parser.set(2, '\\');
        CHECKS.same("the last byte is escaped", quick(parser), "0:0-4u left 0");
        CHECKS.same("a cut from the end leaves the escape byte", parser.cut(1), 3);
        CHECKS.same("as the last one", quick(parser), "0:0-3u left 0");
        CHECKS.same("the best reading", best(parser), "left 1");
    }

    private static void escapesBehindEscapes() {
        CHECKS.part("text: an escape byte behind an escape byte escapes nothing");
        for (int many = 0; many <= 46; many++) {
            IslandParser parser = Parsers.with("(", ")");
            parser.setEscape('\\');
            String text = "\\".repeat(many) + "()";
            boolean isEscaped = many % 2 == 1;
            String pair = "0:" + many + "-" + (many + 2) + "w left 0";
            CHECKS.same(many + ", quick", Parsers.quick(parser, text), isEscaped ? "left 0" : pair);
            CHECKS.same(many + ", best", Parsers.best(parser, text), isEscaped ? "left 1" : pair);
            CHECKS.same(many + ", marks", Parsers.marks(parser, text),
                    isEscaped ? "" + (many + 1) : many + " " + (many + 1));
        }
    }

    private static void escapesInWords() {
        CHECKS.part("text: an escape byte and the byte behind it are never a part of a word");
        for (int at = 0; at < 3; at++) {
            String word = new StringBuilder("abc").replace(at, at + 1, "^").toString();
            IslandParser parser = Parsers.with(word, "!", "?", word);
            CHECKS.same(word + " as a word", Parsers.quick(parser, word + "!"), "0:0-4w left 0");
            CHECKS.same(word + " as a closing word", Parsers.best(parser, "?" + word), "1:0-4w left 0");
            parser.setEscape('^');
            CHECKS.same(word + " with an escape byte, quick", Parsers.quick(parser, word + "!"), "left 0");
            CHECKS.same(word + ", marks", Parsers.marks(parser, word + "x!"), "4");
            CHECKS.same(word + ", closing, quick", Parsers.quick(parser, "?" + word), "1:0-4u left 0");
            CHECKS.same(word + ", closing, best", Parsers.best(parser, "?" + word), "left 1");
        }
        IslandParser parser = Parsers.with("abc", "c", "b", "bc");
        parser.setEscape('^');
        CHECKS.same("the first byte is escaped", Parsers.quick(parser, "^abcbc"), "1:2-6w left 0");
        CHECKS.same("its marks", Parsers.marks(parser, "^abcc"), "2 4");
        CHECKS.same("a byte in the middle is escaped", Parsers.marks(parser, "a^bc"), "3");
        CHECKS.same("the last byte is escaped", Parsers.marks(parser, "ab^c"), "1");
        CHECKS.same("a shorter word ahead of an escape byte", Parsers.quick(parser, "b^cbc"), "1:0-5w left 0");
    }

    private static void escapeBytes() {
        CHECKS.part("promise 7: 32 to 126, -1 for none");
        IslandParser parser = Parsers.with("ab", "ba");
        int before = -1;
        for (int value = 32; value <= 126; value++) {
            CHECKS.same("setEscape " + value, parser.setEscape(value), before);
            boolean isWordByte = value == 'a' || value == 'b';
            CHECKS.same("it escapes", Parsers.quick(parser, (char) value + "abba"), "left 0");
            CHECKS.same("only the next byte", Parsers.quick(parser, (char) value + "xabba"),
                    isWordByte ? "left 0" : "0:2-6w left 0");
            before = value;
        }
        CHECKS.same("none", parser.setEscape(-1), 126);
        CHECKS.same("none before", parser.setEscape(-1), -1);
        CHECKS.same("the last one escapes nothing now", Parsers.quick(parser, "~abba"), "0:1-5w left 0");
    }

    private static void sixKinds() {
        CHECKS.part("kinds: 0 to 5");
        IslandParser parser = Parsers.with("(", ")", "[", "]", "{", "}", "<", ">", "/", "\\", "b", "d");
        CHECKS.same("each of them, quick", Parsers.quick(parser, "()[]{}<>/\\bd"),
                "0:0-2w 1:2-4w 2:4-6w 3:6-8w 4:8-10w 5:10-12w left 0");
        CHECKS.same("in one another, best", Parsers.best(parser, "([{</bd\\>}])"),
                "0:0-12w 1:1-11w 2:2-10w 3:3-9w 4:4-8w 5:5-7w left 0");
    }

    private static void wordLengths() {
        CHECKS.part("kinds: words of 1 to 3 bytes each");
        for (int opening = 1; opening <= 3; opening++) {
            for (int closing = 1; closing <= 3; closing++) {
                for (int kind = 0; kind < 6; kind++) {
                    IslandParser parser = new IslandParser();
                    String opens = "abc".substring(0, opening);
                    String closes = "xyz".substring(0, closing);
                    CHECKS.same("one word", parser.setWord(kind, false, (int) Parsers.packed(opens), opening), false);
                    CHECKS.same("both words", parser.setWord(kind, true, (int) Parsers.packed(closes), closing), true);
                    String text = "." + opens + "." + closes + ".";
                    String want = kind + ":1-" + (2 + opening + closing) + "w left 0";
                    CHECKS.same(text + " quick", Parsers.quick(parser, text), want);
                    CHECKS.same(text + " best", Parsers.best(parser, text), want);
                    CHECKS.same(text + " marks", Parsers.marks(parser, text), "1 " + (2 + opening));
                }
            }
        }
    }

    private static void wordBytes() {
        CHECKS.part("promise 8: the lowest byte is the last one; higher bytes are not looked at");
        for (int higher : new int[] {0, 1, 0x1F, 0x61, 0x7F, 0xFF}) {
            IslandParser parser = new IslandParser();
            parser.setWord(0, true, '!', 1);
            parser.setWord(0, false, higher << 24 | 0x616263, 3);
            CHECKS.same("three bytes", Parsers.quick(parser, "abc!"), "0:0-4w left 0");
            parser.setWord(0, false, higher << 24 | higher << 16 | 0x6162, 2);
            CHECKS.same("two bytes", Parsers.quick(parser, "ab!"), "0:0-3w left 0");
            parser.setWord(0, false, higher << 24 | higher << 16 | higher << 8 | 0x61, 1);
            CHECKS.same("one byte", Parsers.quick(parser, "a!"), "0:0-2w left 0");
            CHECKS.same("no byte", parser.setWord(0, false, higher * 0x01010101, 0), false);
            CHECKS.same("no word", Parsers.quick(parser, "a!"), "left 0");
        }
        CHECKS.part("promise 8: bytes 32 to 126");
        IslandParser parser = Parsers.with(null, "a");
        for (int at = 0; at < 3; at++) {
            for (int value : new int[] {32, 126}) {
                int bytes = 0x787878 & ~(255 << 8 * at) | value << 8 * at;
                CHECKS.same("setWord " + bytes, parser.setWord(0, false, bytes, 3), true);
                String word = "" + (char) (bytes >> 16) + (char) (bytes >> 8 & 255) + (char) (bytes & 255);
                CHECKS.same("'" + word + "'", Parsers.quick(parser, word + "a"), "0:0-4w left 0");
            }
        }
    }

    private static void sameWords() {
        CHECKS.part("kinds: they can be the same");
        for (int length = 1; length <= 3; length++) {
            String word = "xyz".substring(0, length);
            IslandParser parser = Parsers.with(word, word);
            String want = "0:0-" + 2 * length + "w 0:" + 2 * length + "-" + 4 * length + "w left 0";
            CHECKS.same(word + " quick", Parsers.quick(parser, word.repeat(4)), want);
            CHECKS.same(word + " best", Parsers.best(parser, word.repeat(4)), want);
            CHECKS.same(word + " alone, quick", Parsers.quick(parser, word), "0:0-" + length + "u left 0");
            CHECKS.same(word + " alone, best", Parsers.best(parser, word), "left 1");
        }
    }

    private static void incompleteKinds() {
        CHECKS.part("kinds: a kind with both words is complete; others are not looked for");
        for (int kind = 0; kind < 6; kind++) {
            IslandParser parser = new IslandParser();
            CHECKS.same("no word", parser.setWord(kind, false, 0, 0), false);
            CHECKS.same("an opening word", parser.setWord(kind, false, 'a', 1), false);
            CHECKS.same("it opens nothing", Parsers.quick(parser, "ab"), "left 0");
            CHECKS.same("it is no mark", Parsers.marks(parser, "ab"), "");
            CHECKS.same("both", parser.setWord(kind, true, 'b', 1), true);
            CHECKS.same("an island", Parsers.best(parser, "ab"), kind + ":0-2w left 0");
            CHECKS.same("no opening word any more", parser.setWord(kind, false, 0, 0), false);
            CHECKS.same("it closes nothing", Parsers.quick(parser, "ab"), "left 0");
            CHECKS.same("nor is it a mark", Parsers.marks(parser, "ab"), "");
            CHECKS.same("nor unused", Parsers.best(parser, "ab"), "left 0");
            CHECKS.same("no words any more", parser.setWord(kind, true, 0, 0), false);
            CHECKS.same("the opening word alone again", parser.setWord(kind, false, 'a', 1), false);
        }
        IslandParser parser = Parsers.with("(", ")", "((", null, null, "))", "(((", null);
        CHECKS.same("longer words of others hide nothing, quick", Parsers.quick(parser, "((()))"),
                "0:0-6w 0:1-5w 0:2-4w left 0");
        CHECKS.same("nor of marks", Parsers.marks(parser, "((()))"), "0 1 2 3 4 5");
        CHECKS.same("nor in a best reading", Parsers.best(parser, "((()))"), "0:0-6w 0:1-5w 0:2-4w left 0");
    }

    /** Kind i opens with the letter i and closes with its capital. */
    private static IslandParser letters() {
        return Parsers.with("a", "A", "b", "B", "c", "C", "d", "D", "e", "E", "f", "F");
    }

    private static String nested(int around, int inside) {
        return "" + LETTERS.charAt(around) + LETTERS.charAt(inside) + LETTERS.charAt(26 + inside)
                + LETTERS.charAt(26 + around);
    }

    private static String bothOf(int around, int inside) {
        return around + ":0-4w " + inside + ":1-3w left ";
    }

    private static void whatKindsAreLikeAtFirst() {
        CHECKS.part("kinds: not raw, can stand outside, all of them in the inner set, at first");
        for (int around = 0; around < 6; around++) {
            CHECKS.same("the inner set", new IslandParser().setKind(around, true, false, 0), 63);
            for (int inside = 0; inside < 6; inside++) {
                IslandParser parser = letters();
                String text = nested(around, inside);
                CHECKS.same(text + " quick", Parsers.quick(parser, text), bothOf(around, inside) + "0");
                CHECKS.same(text + " best", Parsers.best(parser, text), bothOf(around, inside) + "0");
            }
        }
    }

    private static void innerSets() {
        CHECKS.part("promise 9: the inner set is the sum of the powers 2^k of its kinds k, 0 to 63");
        for (int around = 0; around < 6; around++) {
            IslandParser parser = letters();
            int before = 63;
            for (int inner = 0; inner <= 63; inner++) {
                CHECKS.same("setKind", parser.setKind(around, false, true, inner), before);
                before = inner;
                int inside = inner % 6;
                boolean isIn = (inner >> inside & 1) == 1;
                // Where a kind cannot stand in itself, the first closing word ends the outer island.
                String alone = inside == around ? around + ":0-3w left " : around + ":0-4w left ";
                String text = nested(around, inside);
                CHECKS.same(text + " quick, " + inner, Parsers.quick(parser, text),
                        isIn ? bothOf(around, inside) + "0" : alone + "0");
                CHECKS.same(text + " best, " + inner, Parsers.best(parser, text),
                        isIn ? bothOf(around, inside) + "0" : alone + "2");
            }
        }
        IslandParser parser = letters();
        parser.setKind(0, false, true, 2);
        CHECKS.same("the inner set is for what stands directly in it", Parsers.quick(parser, "abcCBA"),
                "0:0-6w 1:1-5w 2:2-4w left 0");
        CHECKS.same("in a best reading too", Parsers.best(parser, "abaABA"), "0:0-6w 1:1-5w 0:2-4w left 0");
    }

    private static void outside() {
        CHECKS.part("promise 9: whether it can stand outside of all islands");
        for (int kind = 0; kind < 6; kind++) {
            IslandParser parser = letters();
            parser.setKind(kind, false, false, 63);
            int other = (kind + 1) % 6;
            String alone = "" + LETTERS.charAt(kind) + LETTERS.charAt(26 + kind);
            CHECKS.same(alone + " quick", Parsers.quick(parser, alone), "left 0");
            CHECKS.same(alone + " best", Parsers.best(parser, alone), "left 2");
            CHECKS.same("inside another, quick", Parsers.quick(parser, nested(other, kind)), bothOf(other, kind) + "0");
            CHECKS.same("inside another, best", Parsers.best(parser, nested(other, kind)), bothOf(other, kind) + "0");
            parser.setKind(kind, false, true, 0);
            CHECKS.same("outside again", Parsers.quick(parser, alone), kind + ":0-2w left 0");
        }
    }

    private static void rawIslands() {
        CHECKS.part("kinds: in a raw island nothing can stand, whatever its inner set is");
        for (int inner = 0; inner <= 63; inner++) {
            for (int kind = 0; kind < 6; kind++) {
                IslandParser parser = letters();
                parser.setKind(kind, true, true, inner);
                int inside = (kind + 1 + inner % 5) % 6;
                String text = nested(kind, inside);
                CHECKS.same(text + " quick", Parsers.quick(parser, text), kind + ":0-4w left 0");
                CHECKS.same(text + " best", Parsers.best(parser, text), kind + ":0-4w left 0");
                String twice = nested(kind, kind);
                CHECKS.same(twice + " quick", Parsers.quick(parser, twice), kind + ":0-3w left 0");
                CHECKS.same(twice + " best", Parsers.best(parser, twice), kind + ":0-4w left 0");
                CHECKS.same("the inner set is kept", parser.setKind(kind, false, true, 63), inner);
                CHECKS.same("not raw again", Parsers.quick(parser, text), bothOf(kind, inside) + "0");
            }
        }
    }

    private static void lenience() {
        CHECKS.part("promise 10 and quick reading: lenient (it is, at first)");
        CHECKS.same("at first", new IslandParser().setLenient(false), true);
        CHECKS.same("at first, set to the same", new IslandParser().setLenient(true), true);
        IslandParser parser = letters();
        CHECKS.same("a reading at first", Parsers.quick(parser, "abA"), "0:0-3w 1:1-2b left 0");
        parser.setLenient(false);
        CHECKS.same("not lenient", Parsers.quick(parser, "abA"), "0:0-3u 1:1-3u left 1");
        CHECKS.same("before", parser.setLenient(true), false);
        CHECKS.same("again", Parsers.quick(parser, "abA"), "0:0-3w 1:1-2b left 0");
    }

    private static String quick(IslandParser parser) {
        parser.quick();
        return Parsers.reading(parser);
    }

    private static String best(IslandParser parser) {
        parser.best();
        return Parsers.reading(parser);
    }
}

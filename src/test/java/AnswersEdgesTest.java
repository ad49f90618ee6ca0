import java.math.BigInteger;
import java.util.ArrayList;
import java.util.List;

/** The edges of promises 13 and 16 to 29: how long a reading is kept, and what it tells. */
public final class AnswersEdgesTest {
    private static final Checks CHECKS = new Checks("AnswersEdgesTest");

    public static void main(String[] args) {
        noReadingAtFirst();
        readingIsKept();
        readingIsForgotten();
        readingMadeLast();
        nothingOfTheReadingBefore();
        islandCounts();
        parents();
        depths();
        own();
        at();
        count();
        water();
        left();
        share();
        digestOfANewObject();
        digestWraps();
        digestParts();
        longestUse();
        CHECKS.end();
    }

    private interface Call {
        Object on(IslandParser parser);
    }

    private static IslandParser brackets() {
        return Parsers.with("(", ")", "[", "]");
    }

    private static IslandParser read(char way, String text) {
        IslandParser parser = brackets();
        Parsers.feed(parser, text);
        if (way == 'q') {
            parser.quick();
        } else {
            parser.best();
        }
        return parser;
    }

    private static void noReadingAtFirst() {
        CHECKS.part("promise 13");
        IslandParser parser = new IslandParser();
        CHECKS.same("at first", parser.hasReading(), false);
        parser.quick();
        CHECKS.same("a quick reading of an empty text", parser.hasReading(), true);
        CHECKS.same("its islands", parser.islandCount(), 0);
        IslandParser other = new IslandParser();
        other.best();
        CHECKS.same("a best reading of an empty text", other.hasReading(), true);
        CHECKS.same("its islands", other.islandCount(), 0);
    }

    private static void readingIsKept() {
        CHECKS.part("a reading is kept by all calls that only ask");
        for (char way : new char[] {'q', 'b'}) {
            keeps(way, "size", p -> p.size());
            keeps(way, "byteAt", p -> p.byteAt(0));
            keeps(way, "hasReading", p -> p.hasReading());
            keeps(way, "markCount", p -> p.markCount());
            keeps(way, "mark", p -> p.mark(0));
            keeps(way, "islandCount", p -> p.islandCount());
            keeps(way, "kind", p -> p.kind(0));
            keeps(way, "start", p -> p.start(0));
            keeps(way, "end", p -> p.end(0));
            keeps(way, "state", p -> p.state(0));
            keeps(way, "parent", p -> p.parent(0));
            keeps(way, "depth", p -> p.depth(0));
            keeps(way, "own", p -> p.own(0));
            keeps(way, "at", p -> p.at(0));
            keeps(way, "count", p -> p.count(0, 0));
            keeps(way, "water", p -> p.water());
            keeps(way, "left", p -> p.left());
            keeps(way, "share", p -> p.share());
            keeps(way, "digest", p -> p.digest());
        }
    }

    private static void keeps(char way, String what, Call call) {
        IslandParser parser = read(way, "x([(y)(]z)[(");
        String before = Snapshots.told(read(way, "x([(y)(]z)[("));
        call.on(parser);
        call.on(parser);
        CHECKS.same(what + " keeps the reading", parser.hasReading(), true);
        CHECKS.same(what + " changes nothing", Snapshots.told(parser), before);
    }

    private static void readingIsForgotten() {
        CHECKS.part("until the next call that throws no exception (also if it changes nothing)");
        for (char way : new char[] {'q', 'b'}) {
            forgets(way, "feed", p -> p.feed('a'));
            forgets(way, "feed nothing", p -> p.feed(0));
            forgets(way, "cut", p -> p.cut(1));
            forgets(way, "cut all", p -> p.cut(p.size()));
            forgets(way, "cut nothing", p -> p.cut(0));
            forgets(way, "set", p -> p.set(1, 'x'));
            forgets(way, "set to the same", p -> p.set(0, '('));
            forgets(way, "setEscape", p -> p.setEscape('('));
            forgets(way, "setEscape to the same", p -> p.setEscape(-1));
            forgets(way, "setWord, opening", p -> p.setWord(0, false, 'x', 1));
            forgets(way, "setWord, closing", p -> p.setWord(0, true, 'x', 1));
            forgets(way, "setWord to the same", p -> p.setWord(1, true, ']', 1));
            forgets(way, "setWord to none", p -> p.setWord(0, false, 0, 0));
            forgets(way, "setWord to none as before", p -> p.setWord(5, true, 0, 0));
            forgets(way, "setKind", p -> p.setKind(0, true, false, 0));
            forgets(way, "setKind to the same", p -> p.setKind(0, false, true, 63));
            forgets(way, "setKind of a kind without words", p -> p.setKind(5, true, true, 63));
            forgets(way, "setLenient", p -> p.setLenient(false));
            forgets(way, "setLenient to the same", p -> p.setLenient(true));
        }
    }

    private static void forgets(char way, String what, Call call) {
        IslandParser parser = read(way, "([)]");
        call.on(parser);
        CHECKS.same(what + " forgets the reading", parser.hasReading(), false);
        Class<?> state = Checks.STATE;
        CHECKS.fails("islandCount behind " + what, parser, state, parser::islandCount);
        CHECKS.fails("kind behind " + what, parser, state, () -> parser.kind(0));
        CHECKS.fails("at behind " + what, parser, state, () -> parser.at(0));
        CHECKS.fails("count behind " + what, parser, state, () -> parser.count(0, 0));
        CHECKS.fails("water behind " + what, parser, state, parser::water);
        CHECKS.fails("left behind " + what, parser, state, parser::left);
        CHECKS.fails("share behind " + what, parser, state, parser::share);
        parser.quick();
        CHECKS.same("a new one behind " + what, parser.hasReading(), true);
    }

    private static void readingMadeLast() {
        CHECKS.part("the reading that was made last, of either way, is kept");
        IslandParser parser = read('q', "([)(");
        CHECKS.same("quick", Parsers.reading(parser), "0:0-3w 1:1-2b 0:3-4u left 0");
        CHECKS.same("the unused marks", parser.best(), 2);
        CHECKS.same("best", Parsers.reading(parser), "0:0-3w left 2");
        CHECKS.same("the same again", parser.best(), 2);
        CHECKS.same("best again", Parsers.reading(parser), "0:0-3w left 2");
        CHECKS.same("the islands", parser.quick(), 3);
        CHECKS.same("quick again", Parsers.reading(parser), "0:0-3w 1:1-2b 0:3-4u left 0");
    }

    private static void nothingOfTheReadingBefore() {
        CHECKS.part("a reading with fewer islands than the one before it");
        String[] texts = {"(((((((([]", "x()()()()()[()]", "([)(x", "xx(x)xxxxx", "x", "[x]", "", "([(x)])"};
        IslandParser parser = brackets();
        for (String text : texts) {
            for (char way : new char[] {'q', 'b', 'q'}) {
                Parsers.reset(parser, "()[(])((" + "()".repeat(16)).quick();
                Parsers.reset(parser, text);
                CHECKS.same(way + " of " + text, way == 'q' ? parser.quick() : parser.best(),
                        way == 'q' ? read('q', text).islandCount() : read('b', text).left());
                CHECKS.same(way + " of " + text + " tells", Snapshots.told(parser), Snapshots.told(read(way, text)));
                int islands = parser.islandCount();
                CHECKS.fails("one island more", parser, Checks.INDEX, () -> parser.kind(islands));
            }
        }
    }

    private static void islandCounts() {
        CHECKS.part("promise 16: none, and as many as a text can have");
        for (int many = 0; many <= 24; many++) {
            CHECKS.same("quick " + many, read('q', "()".repeat(many)).islandCount(), many);
            CHECKS.same("best " + many, read('b', "[]".repeat(many)).islandCount(), many);
        }
        IslandParser parser = read('q', "[]".repeat(24));
        CHECKS.same("the last one's kind", parser.kind(23), 1);
        CHECKS.same("its start", parser.start(23), 46);
        CHECKS.same("its end", parser.end(23), 48);
        CHECKS.same("its state", parser.state(23), 0);
        IslandParser broken = read('q', "[((((]".repeat(8));
        CHECKS.same("most of them broken", broken.islandCount(), 40);
        CHECKS.same("the last one", broken.start(39) + " " + broken.end(39) + " " + broken.state(39), "46 47 1");
    }

    private static void parents() {
        CHECKS.part("promise 21: -1 if it has none; else the innermost other island in which it stands");
        IslandParser parser = read('q', "()(()[])[(])([(");
        int[] due = {-1, -1, 1, 1, -1, 4, -1, 6, 7};
        CHECKS.same("islands", parser.islandCount(), due.length);
        for (int island = 0; island < due.length; island++) {
            CHECKS.same("parent " + island, parser.parent(island), due[island]);
        }
        IslandParser best = read('b', "(()[])()");
        int[] dueBest = {-1, 0, 0, -1};
        for (int island = 0; island < dueBest.length; island++) {
            CHECKS.same("parent in a best reading " + island, best.parent(island), dueBest[island]);
        }
    }

    private static void depths() {
        CHECKS.part("promise 22: 0 without a parent, otherwise that of its parent plus 1");
        IslandParser parser = read('q', "()(()[])[(])([(");
        int[] due = {0, 0, 1, 1, 0, 1, 0, 1, 2};
        for (int island = 0; island < due.length; island++) {
            CHECKS.same("depth " + island, parser.depth(island), due[island]);
        }
        IslandParser eight = read('q', "(".repeat(9));
        IslandParser all = read('b', "(".repeat(24) + ")".repeat(24));
        for (int island = 0; island < 8; island++) {
            CHECKS.same("of eight, quick, " + island, eight.depth(island), island);
        }
        for (int island = 0; island < 24; island++) {
            CHECKS.same("of 24, best, " + island, all.depth(island), island);
        }
    }

    private static void own() {
        CHECKS.part("promise 23: from its start to its end (its words included), in no island inside it");
        CHECKS.same("its words alone", read('q', "()").own(0), 2);
        CHECKS.same("all 48 bytes", read('q', "(" + "x".repeat(46) + ")").own(0), 48);
        CHECKS.same("an opening word alone", read('q', "x(").own(0), 1);
        IslandParser parser = read('q', "a(b[c(d)e]f[g)h");
        int[] due = {4, 4, 3, 2};
        for (int island = 0; island < due.length; island++) {
            CHECKS.same("own " + island, parser.own(island), due[island]);
        }
        IslandParser nested = read('b', "(".repeat(24) + ")".repeat(24));
        for (int island = 0; island < 24; island++) {
            CHECKS.same("of 24, " + island, nested.own(island), 2);
        }
    }

    private static void at() {
        CHECKS.part("promise 24: from its start on, ahead of its end; -1 if there is none");
        IslandParser parser = Parsers.with("<<", ">>", "[", "]");
        Parsers.feed(parser, "a<<b[c>>d<<");
        parser.quick();
        int[] due = {-1, 0, 0, 0, 1, 1, 0, 0, -1, 2, 2};
        for (int place = 0; place < due.length; place++) {
            CHECKS.same("at " + place, parser.at(place), due[place]);
        }
        IslandParser touching = read('q', "()[]");
        CHECKS.same("the last byte of the first", touching.at(1), 0);
        CHECKS.same("the first byte of the second", touching.at(2), 1);
        IslandParser none = read('q', "x".repeat(48));
        CHECKS.same("none at 0", none.at(0), -1);
        CHECKS.same("none at 47", none.at(47), -1);
        IslandParser all = read('b', "(" + "x".repeat(46) + ")");
        CHECKS.same("at 0", all.at(0), 0);
        CHECKS.same("at 47", all.at(47), 0);
    }

    private static void count() {
        CHECKS.part("promise 25: kinds 0 to 5 and states 0 to 2");
        for (int kind = 0; kind < 6; kind++) {
            IslandParser parser = new IslandParser();
            int other = (kind + 1) % 6;
            parser.setWord(kind, false, '(', 1);
            parser.setWord(kind, true, ')', 1);
            parser.setWord(other, false, '[', 1);
            parser.setWord(other, true, ']', 1);
            Parsers.feed(parser, "()()()[((](");
            parser.quick();
            for (int of = 0; of < 6; of++) {
                int[] due = of == kind ? new int[] {3, 2, 1} : new int[] {of == other ? 1 : 0, 0, 0};
                for (int state = 0; state < 3; state++) {
                    CHECKS.same("count " + of + " " + state, parser.count(of, state), due[state]);
                }
            }
        }
        IslandParser empty = new IslandParser();
        empty.quick();
        CHECKS.same("none", empty.count(5, 2), 0);
    }

    private static void water() {
        CHECKS.part("promise 26: none, all and each number between");
        for (int many = 0; many <= 48; many++) {
            CHECKS.same("without islands", read('q', "x".repeat(many)).water(), many);
            String text = "x".repeat(many) + "(".repeat(48 - many);
            CHECKS.same("quick, in front of an island", read('q', text).water(), many);
            CHECKS.same("best, all in no island", read('b', text).water(), 48);
        }
        CHECKS.same("inner islands are not counted twice", read('q', "x(([]))x[(]").water(), 2);
        CHECKS.same("behind a broken one", read('q', "([)]x").water(), 2);
    }

    private static void left() {
        CHECKS.part("promise 27: stray words of a quick reading, unused marks of a best reading");
        IslandParser parser = brackets();
        parser.setLenient(false);
        parser.quick();
        CHECKS.same("of an empty text, quick", parser.left(), 0);
        parser.best();
        CHECKS.same("of an empty text, best", parser.left(), 0);
        Parsers.reset(parser, "([" + ")".repeat(46)).quick();
        CHECKS.same("46 stray words", parser.left(), 46);
        CHECKS.same("46 unused marks", parser.best(), 46);
        CHECKS.same("the same", parser.left(), 46);
        Parsers.reset(parser, ")".repeat(48)).best();
        CHECKS.same("48 unused marks", parser.left(), 48);
        parser.quick();
        CHECKS.same("no stray words outside", parser.left(), 0);
    }

    private static void share() {
        CHECKS.part("promise 28: 0 if the text is empty");
        for (char way : new char[] {'q', 'b'}) {
            CHECKS.same("empty", read(way, "").share(), 0.0);
            CHECKS.same("no island", read(way, "x").share(), 0.0);
            CHECKS.same("all", read(way, "()").share(), 1.0);
            for (int size = 3; size <= 48; size++) {
                CHECKS.same("two of " + size, read(way, "x".repeat(size - 2) + "()").share(), 2.0 / size);
                CHECKS.same("all but one of " + size, read(way, "x(" + "y".repeat(size - 3) + ")").share(),
                        (size - 1.0) / size);
            }
        }
        CHECKS.same("inner islands are not counted twice", read('q', "x(([]))x[(]").share(), 9.0 / 11.0);
        IslandParser cut = read('q', "()");
        cut.cut(2);
        cut.quick();
        CHECKS.same("empty again", cut.share(), 0.0);
    }

    private static List<Integer> firstNumbers(String text, int escape, int lenient) {
        List<Integer> numbers = new ArrayList<>();
        numbers.add(text.length());
        text.chars().forEach(numbers::add);
        numbers.add(escape);
        numbers.add(lenient);
        return numbers;
    }

    /** The document's sum in numbers without an end, brought to 64 bits only at the end. */
    private static long sum(List<Integer> numbers) {
        BigInteger d = BigInteger.valueOf(109);
        for (int number : numbers) {
            d = d.multiply(BigInteger.valueOf(31)).add(BigInteger.valueOf(number));
        }
        return d.longValue();
    }

    private static void digestOfANewObject() {
        CHECKS.part("promise 29: a new object, with and without a reading");
        List<Integer> numbers = firstNumbers("", -1, 1);
        for (int kind = 0; kind < 6; kind++) {
            numbers.addAll(List.of(0, 0, 1, 63));
        }
        IslandParser parser = new IslandParser();
        CHECKS.same("without", parser.digest(), sum(numbers));
        parser.quick();
        numbers.addAll(List.of(0, 0));
        CHECKS.same("with", parser.digest(), sum(numbers));
    }

    private static void digestWraps() {
        CHECKS.part("promise 29: which wraps around as a 64-bit integer");
        for (int size = 0; size <= 48; size++) {
            String text = "~".repeat(size);
            List<Integer> numbers = firstNumbers(text, 126, 0);
            for (int kind = 0; kind < 6; kind++) {
                numbers.addAll(List.of(0, 1, 0, 0));
            }
            IslandParser parser = new IslandParser();
            Parsers.feed(parser, text);
            parser.setEscape(126);
            parser.setLenient(false);
            for (int kind = 0; kind < 6; kind++) {
                parser.setKind(kind, true, false, 0);
            }
            CHECKS.same("a text of " + size, parser.digest(), sum(numbers));
        }
        IslandParser parser = read('q', "()".repeat(24));
        List<Integer> numbers = firstNumbers("()".repeat(24), -1, 1);
        for (int kind = 0; kind < 6; kind++) {
            numbers.addAll(List.of(kind < 2 ? 1 : 0, 0, 1, 63));
        }
        numbers.add(24);
        for (int island = 0; island < 24; island++) {
            numbers.addAll(List.of(0, 2 * island, 2 * island + 2, 0));
        }
        numbers.add(0);
        CHECKS.same("24 islands", parser.digest(), sum(numbers));
    }

    private static void digestParts() {
        CHECKS.part("promise 29: each part by itself");
        String text = "[(])(";
        IslandParser parser = brackets();
        Parsers.feed(parser, text);
        parser.setLenient(false);
        parser.setEscape(32);
        for (int kind = 0; kind < 6; kind++) {
            parser.setKind(kind, kind == 4, kind != 3, 63 - 2 * kind);
        }
        List<Integer> numbers = firstNumbers(text, 32, 0);
        for (int kind = 0; kind < 6; kind++) {
            numbers.addAll(List.of(kind < 2 ? 1 : 0, kind == 4 ? 1 : 0, kind != 3 ? 1 : 0,
                    63 - 2 * kind));
        }
        CHECKS.same("without a reading", parser.digest(), sum(numbers));
        parser.quick();
        List<Integer> quick = new ArrayList<>(numbers);
        quick.addAll(List.of(3, 1, 0, 5, 2, 0, 1, 4, 0, 0, 4, 5, 2, 1));
        CHECKS.same("with a quick one and a stray word", parser.digest(), sum(quick));
        parser.best();
        List<Integer> best = new ArrayList<>(numbers);
        best.addAll(List.of(1, 1, 0, 3, 0, 3));
        CHECKS.same("with a best one and unused marks", parser.digest(), sum(best));
        parser.setLenient(true);
        numbers.set(7, 1);
        CHECKS.same("without one again", parser.digest(), sum(numbers));
    }

    private static void longestUse() {
        CHECKS.part("an object is used for at most 512 calls");
        IslandParser parser = brackets();
        parser.setLenient(false);
        int size = 0;
        for (int call = 6; call <= 510; call++) {
            switch (call % 5) {
                case 0 -> {
                    CHECKS.same("feed, call " + call, parser.feed(Parsers.packed("([)]")), 4);
                    size = 4;
                }
                case 1 -> CHECKS.same("best, call " + call, parser.best(), size == 4 ? 2 : 0);
                case 2 -> CHECKS.same("quick, call " + call, parser.quick(), size == 4 ? 2 : 0);
                case 3 -> CHECKS.same("left, call " + call, parser.left(), size == 4 ? 1 : 0);
                default -> {
                    CHECKS.same("cut, call " + call, parser.cut(size), 0);
                    size = 0;
                }
            }
        }
        CHECKS.same("call 511", parser.feed(')'), 5);
        CHECKS.same("call 512", parser.quick(), 2);
    }
}

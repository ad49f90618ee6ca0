/**
 * Every 'Throws' sentence of the document: the arguments at its edge, in each state of an object; the
 * exception that is named first, if several apply; and that a method that throws changes nothing.
 */
public final class RefusedCallsTest {
    private static final Checks CHECKS = new Checks("RefusedCallsTest");
    private static final int LEAST = Integer.MIN_VALUE;
    private static final int GREATEST = Integer.MAX_VALUE;

    /** In these texts every word of the states' kinds stands, once alone and once in an island. */
    private static final String[] WITH_ALL_WORDS = {
        "( ) [[ ]] <!- -!> ' ' {+ } / ++/", "()[[]]<!--!>''{+}/++/", "([[<!-'{+/++/}'-!>]])"};
    private static final int[] WRONG_BYTES = {-129, -1, 1, 31, 127, 128, 160, 255};
    private static final int[] WRONG_KINDS = {LEAST, -1, 6, 7, 32, 38, GREATEST};
    private static final int[] ANY = {LEAST, -1, 0, 1, 6, 48, GREATEST};

    private interface Call {
        Object on(IslandParser parser);
    }

    private enum State {
        NEW(null, ' '), EMPTY(null, 'q'), EMPTY_BEST(null, 'b'),
        FED("x([[y)]]'z", ' '), QUICK("x([[y)]]'z", 'q'), BEST("x([[y)]]'z", 'b'),
        FULL("(a[[b]]'c')".repeat(4) + "(/++", ' '), FULL_QUICK("(a[[b]]'c')".repeat(4) + "(/++", 'q'),
        FULL_BEST("(a[[b]]'c')".repeat(4) + "(/++", 'b');

        final String text;
        final char way;

        State(String text, char way) {
            this.text = text;
            this.way = way;
        }

        boolean hasReading() {
            return way != ' ';
        }

        int size() {
            return text == null ? 0 : text.length();
        }

        IslandParser made() {
            IslandParser parser = new IslandParser();
            if (text != null) {
                parser = Parsers.with("(", ")", "[[", "]]", "<!-", "-!>", "'", "'", "{+", "}", "/", "++/");
                parser.setKind(2, true, false, 9);
                parser.setKind(4, false, false, 62);
                parser.setLenient(false);
                parser.setEscape('^');
                Parsers.feed(parser, text);
            }
            if (way == 'q') {
                parser.quick();
            } else if (way == 'b') {
                parser.best();
            }
            return parser;
        }
    }

    public static void main(String[] args) {
        for (State state : State.values()) {
            feedWrongBytes(state);
            feedTooMany(state);
            cut(state);
            set(state);
            byteAt(state);
            setEscape(state);
            setWord(state);
            setKind(state);
            mark(state);
            islands(state);
            at(state);
            count(state);
            withoutReading(state);
        }
        feedAtEverySize();
        firstOfSeveral();
        CHECKS.end();
    }

    /** The object behind the refused call is compared with one that never had the call. */
    private static void refused(State state, String what, Class<?> want, Call call) {
        IslandParser parser = state.made();
        CHECKS.same(what, Checks.outcome(() -> call.on(parser)), "throws " + want.getSimpleName());
        CHECKS.same(what + " changes nothing", Snapshots.all(parser, WITH_ALL_WORDS),
                Snapshots.all(state.made(), WITH_ALL_WORDS));
    }

    private static void feedWrongBytes(State state) {
        CHECKS.part(state + ", promise 2: if one of the bytes is not 0 or 32 to 126");
        for (int shift = 0; shift < 64; shift += 8) {
            for (int wrong : WRONG_BYTES) {
                long alone = (wrong & 255L) << shift;
                long amongOthers = 0x6162_6364_6566_6768L & ~(255L << shift) | alone;
                refused(state, "feed " + alone, Checks.ARGUMENT, p -> p.feed(alone));
                refused(state, "feed " + amongOthers, Checks.ARGUMENT, p -> p.feed(amongOthers));
            }
        }
    }

    private static void feedTooMany(State state) {
        CHECKS.part(state + ", promise 2: if the text would have more than 48 bytes");
        if (state.size() == 48) {
            refused(state, "the lowest byte", Checks.STATE, p -> p.feed(' '));
            refused(state, "the highest byte", Checks.STATE, p -> p.feed((long) '~' << 56));
            refused(state, "eight bytes", Checks.STATE, p -> p.feed(0x6162_6364_6566_6768L));
        }
    }

    private static void cut(State state) {
        CHECKS.part(state + ", promise 3: if many is negative, or greater than its size");
        for (int many : new int[] {LEAST, -48, -1, state.size() + 1, 49, 256, GREATEST}) {
            refused(state, "cut " + many, Checks.ARGUMENT, p -> p.cut(many));
        }
    }

    private static int[] noPlaces(State state) {
        return new int[] {LEAST, -48, -1, state.size(), state.size() + 1, 48, 256, GREATEST};
    }

    private static void set(State state) {
        CHECKS.part(state + ", promise 4: if there is no such place");
        for (int place : noPlaces(state)) {
            refused(state, "set " + place, Checks.INDEX, p -> p.set(place, 'x'));
        }
        CHECKS.part(state + ", promise 4: if value is not 32 to 126");
        for (int value : new int[] {LEAST, -1, 0, 31, 127, 128, 255, 256 + 'x', GREATEST}) {
            for (int place = 0; place < state.size(); place += Math.max(1, state.size() - 1)) {
                int at = place;
                refused(state, "set " + at + " " + value, Checks.ARGUMENT, p -> p.set(at, value));
            }
        }
    }

    private static void byteAt(State state) {
        CHECKS.part(state + ", promise 6: if there is no such place");
        for (int place : noPlaces(state)) {
            refused(state, "byteAt " + place, Checks.INDEX, p -> p.byteAt(place));
        }
    }

    private static void setEscape(State state) {
        CHECKS.part(state + ", promise 7: if value is not -1 or 32 to 126");
        for (int value : new int[] {LEAST, -94, -2, 0, 1, 31, 127, 128, 255, 256 + 'x', GREATEST}) {
            refused(state, "setEscape " + value, Checks.ARGUMENT, p -> p.setEscape(value));
        }
    }

    private static void setWord(State state) {
        CHECKS.part(state + ", promise 8: if kind is not 0 to 5");
        for (int kind : WRONG_KINDS) {
            refused(state, "opening " + kind, Checks.INDEX, p -> p.setWord(kind, false, 'x', 1));
            refused(state, "closing " + kind, Checks.INDEX, p -> p.setWord(kind, true, 'x', 1));
            refused(state, "no word " + kind, Checks.INDEX, p -> p.setWord(kind, true, 0, 0));
        }
        for (int kind = 0; kind < 6; kind++) {
            setWrongWord(state, kind, false);
            setWrongWord(state, kind, true);
        }
    }

    private static void setWrongWord(State state, int kind, boolean isClosing) {
        String which = (isClosing ? "closing " : "opening ") + kind + " ";
        CHECKS.part(state + ", promise 8: if many is not 0 to 3");
        for (int many : new int[] {LEAST, -3, -1, 4, 8, GREATEST}) {
            refused(state, which + many, Checks.ARGUMENT,
                    p -> p.setWord(kind, isClosing, 0x61626364, many));
        }
        CHECKS.part(state + ", promise 8: or one of its bytes is not 32 to 126");
        for (int many = 1; many <= 3; many++) {
            for (int at = 0; at < many; at++) {
                for (int wrong : new int[] {0, 31, 127, 128, 255}) {
                    int length = many;
                    int bytes = 0x61626364 & ~(255 << 8 * at) | wrong << 8 * at;
                    refused(state, which + length + " bytes of " + bytes, Checks.ARGUMENT,
                            p -> p.setWord(kind, isClosing, bytes, length));
                }
            }
        }
    }

    private static void setKind(State state) {
        CHECKS.part(state + ", promise 9: if kind is not 0 to 5");
        for (int kind : WRONG_KINDS) {
            refused(state, "setKind " + kind, Checks.INDEX, p -> p.setKind(kind, true, false, 0));
        }
        CHECKS.part(state + ", promise 9: if inner is not 0 to 63");
        for (int inner : new int[] {LEAST, -64, -1, 64, 127, 256, GREATEST}) {
            for (int kind = 0; kind < 6; kind++) {
                int of = kind;
                refused(state, "setKind " + of + " " + inner, Checks.ARGUMENT,
                        p -> p.setKind(of, true, false, inner));
                refused(state, "setKind the other way " + of + " " + inner, Checks.ARGUMENT,
                        p -> p.setKind(of, false, true, inner));
            }
        }
    }

    private static void mark(State state) {
        CHECKS.part(state + ", promise 15: if there is no such mark");
        int marks = state.made().markCount();
        for (int mark : new int[] {LEAST, -1, marks, marks + 1, 48, 256, GREATEST}) {
            refused(state, "mark " + mark, Checks.INDEX, p -> p.mark(mark));
        }
    }

    private static void islands(State state) {
        CHECKS.part(state + ", promises 17 to 23: if there is no such island");
        if (state.hasReading()) {
            int islands = state.made().islandCount();
            for (int island : new int[] {LEAST, -1, islands, islands + 1, 48, 256, GREATEST}) {
                islandRefused(state, island, Checks.INDEX);
            }
        }
        CHECKS.part(state + ", promises 17 to 23: if there is no reading");
        if (!state.hasReading()) {
            for (int island : ANY) {
                islandRefused(state, island, Checks.STATE);
            }
        }
    }

    private static void islandRefused(State state, int island, Class<?> want) {
        refused(state, "kind " + island, want, p -> p.kind(island));
        refused(state, "start " + island, want, p -> p.start(island));
        refused(state, "end " + island, want, p -> p.end(island));
        refused(state, "state " + island, want, p -> p.state(island));
        refused(state, "parent " + island, want, p -> p.parent(island));
        refused(state, "depth " + island, want, p -> p.depth(island));
        refused(state, "own " + island, want, p -> p.own(island));
    }

    private static void at(State state) {
        CHECKS.part(state + ", promise 24: if there is no such place, or no reading");
        for (int place : state.hasReading() ? noPlaces(state) : ANY) {
            refused(state, "at " + place, state.hasReading() ? Checks.INDEX : Checks.STATE,
                    p -> p.at(place));
        }
    }

    private static void count(State state) {
        CHECKS.part(state + ", promise 25: if kind is not 0 to 5, or state is not 0 to 2, or no reading");
        Class<?> want = state.hasReading() ? Checks.INDEX : Checks.STATE;
        for (int kind : WRONG_KINDS) {
            refused(state, "count of kind " + kind, want, p -> p.count(kind, 0));
            refused(state, "count of kind " + kind + ", a wrong state", want, p -> p.count(kind, 3));
        }
        for (int of : new int[] {LEAST, -1, 3, 4, GREATEST}) {
            refused(state, "count of state " + of, want, p -> p.count(0, of));
            refused(state, "count of state " + of + ", kind 5", want, p -> p.count(5, of));
        }
    }

    private static void withoutReading(State state) {
        CHECKS.part(state + ", promises 16, 26, 27 and 28: if there is no reading");
        if (!state.hasReading()) {
            refused(state, "islandCount", Checks.STATE, p -> p.islandCount());
            refused(state, "water", Checks.STATE, p -> p.water());
            refused(state, "left", Checks.STATE, p -> p.left());
            refused(state, "share", Checks.STATE, p -> p.share());
            refused(state, "count", Checks.STATE, p -> p.count(0, 0));
        }
    }

    private static void feedAtEverySize() {
        for (int size = 0; size <= 48; size++) {
            for (int many = 0; many <= 8; many++) {
                CHECKS.part("promise 2: " + many + " bytes to " + size);
                IslandParser parser = new IslandParser();
                String text = "(a)b[c]d".repeat(6).substring(0, size);
                Parsers.feed(parser, text);
                long bytes = Parsers.packed("ABCDEFGH".substring(0, many));
                boolean fits = size + many <= 48;
                CHECKS.same("the answer", Checks.outcome(() -> parser.feed(bytes)),
                        fits ? "" + (size + many) : "throws IllegalStateException");
                CHECKS.same("the text", Parsers.text(parser),
                        text + (fits ? "ABCDEFGH".substring(0, many) : ""));
            }
        }
    }

    private static void firstOfSeveral() {
        CHECKS.part("if several exceptions apply, the one that is named first is thrown");
        refused(State.FULL_QUICK, "feed a wrong byte and too many", Checks.ARGUMENT, p -> p.feed(0x6107));
        refused(State.FULL_QUICK, "feed a wrong byte behind too many", Checks.ARGUMENT, p -> p.feed(0x7F61));
        refused(State.QUICK, "set no place to a wrong byte", Checks.INDEX, p -> p.set(10, 31));
        refused(State.BEST, "set no place to a wrong byte", Checks.INDEX, p -> p.set(-1, 127));
        refused(State.EMPTY, "set no place to a wrong byte", Checks.INDEX, p -> p.set(0, -1));
        refused(State.QUICK, "setWord of no kind with 4 bytes", Checks.INDEX,
                p -> p.setWord(6, false, 0x61626364, 4));
        refused(State.QUICK, "setWord of no kind with wrong bytes", Checks.INDEX,
                p -> p.setWord(-1, true, 31, 1));
        refused(State.BEST, "setKind of no kind with a wrong set", Checks.INDEX,
                p -> p.setKind(-1, false, false, 64));
        refused(State.BEST, "setKind of no kind with a wrong set", Checks.INDEX,
                p -> p.setKind(6, false, false, -1));
        for (State state : new State[] {State.NEW, State.FED, State.FULL}) {
            islandRefused(state, -1, Checks.STATE);
            islandRefused(state, 48, Checks.STATE);
            refused(state, "at no place", Checks.STATE, p -> p.at(-1));
            refused(state, "at no place behind", Checks.STATE, p -> p.at(48));
            refused(state, "count of no kind and state", Checks.STATE, p -> p.count(6, 3));
        }
    }
}

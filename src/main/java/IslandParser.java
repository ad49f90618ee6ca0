/**
 * Looks for islands, structures that begin and end with known words, in texts of which the rest is
 * not known. A quick reading goes through the text once and recovers from what does not fit; a best
 * reading leaves as few words unused as possible.
 */
public final class IslandParser {
    private static final int MOST_BYTES = 48;
    private static final int LOWEST_BYTE = 32;
    private static final int HIGHEST_BYTE = 126;
    private static final int LONGEST_WORD = 3;
    private static final int NO_WORD = 0;
    private static final int KIND_COUNT = 6;
    private static final int ALL_KINDS = 63;
    private static final int MOST_OPEN_QUICKLY = 8;
    private static final int NONE = -1;
    private static final int STATE_COUNT = 3;
    private static final int WHOLE = 0;
    private static final int BROKEN = 1;
    private static final int UNFINISHED = 2;
    private static final int OUTSIDE = 6;

    private final Text text;
    private final Kinds kinds;
    private final Islands islands;
    private final Marks marks;
    private final BestReader bestReader;
    private boolean lenient;

    public IslandParser() {
        text = new Text();
        kinds = new Kinds();
        islands = new Islands();
        marks = new Marks();
        bestReader = new BestReader();
        lenient = true;
    }

    public int feed(long bytes) throws IllegalArgumentException, IllegalStateException {
        int added = 0;
        for (int shift = 56; shift >= 0; shift -= 8) {
            int value = (int) (bytes >>> shift) & 255;
            if (value != 0 && !isTextByte(value)) {
                throw new IllegalArgumentException("a byte is not 0 or 32 to 126");
            }
            added += value != 0 ? 1 : 0;
        }
        if (added > MOST_BYTES - text.many) {
            throw new IllegalStateException("the text would have more than 48 bytes");
        }
        for (int shift = 56; shift >= 0; shift -= 8) {
            int value = (int) (bytes >>> shift) & 255;
            if (value != 0) {
                text.append(value);
            }
        }
        islands.forget();
        return text.many;
    }

    public int cut(int many) throws IllegalArgumentException {
        if (many < 0 || many > text.many) {
            throw new IllegalArgumentException("the text has not so many bytes");
        }
        text.many -= many;
        islands.forget();
        return text.many;
    }

    public int set(int place, int value) throws IndexOutOfBoundsException, IllegalArgumentException {
        needPlace(place);
        if (!isTextByte(value)) {
            throw new IllegalArgumentException("the byte is not 32 to 126");
        }
        int before = text.bytes[place];
        text.bytes[place] = value;
        islands.forget();
        return before;
    }

    public int size() {
        return text.many;
    }

    public int byteAt(int place) throws IndexOutOfBoundsException {
        needPlace(place);
        return text.bytes[place];
    }

    public int setEscape(int value) throws IllegalArgumentException {
        if (value != NONE && !isTextByte(value)) {
            throw new IllegalArgumentException("the escape byte is not -1 or 32 to 126");
        }
        int before = text.escape;
        text.escape = value;
        islands.forget();
        return before;
    }

    public boolean setWord(int kind, boolean isClosing, int bytes, int many)
            throws IndexOutOfBoundsException, IllegalArgumentException {
        needKind(kind);
        if (many < 0 || many > LONGEST_WORD) {
            throw new IllegalArgumentException("a word has 0 to 3 bytes");
        }
        int word = NO_WORD;
        for (int shift = 8 * (many - 1); shift >= 0; shift -= 8) {
            int value = (bytes >>> shift) & 255;
            if (!isTextByte(value)) {
                throw new IllegalArgumentException("a byte of the word is not 32 to 126");
            }
            word = (word << 8) | value;
        }
        if (isClosing) {
            kinds.closing[kind] = word;
        } else {
            kinds.opening[kind] = word;
        }
        islands.forget();
        return kinds.isComplete(kind);
    }

    public int setKind(int kind, boolean isRaw, boolean isOuter, int inner)
            throws IndexOutOfBoundsException, IllegalArgumentException {
        needKind(kind);
        if (inner < 0 || inner > ALL_KINDS) {
            throw new IllegalArgumentException("the inner set is not 0 to 63");
        }
        int before = kinds.inner[kind];
        kinds.inner[kind] = inner;
        kinds.raw = withKind(kinds.raw, kind, isRaw);
        kinds.outer = withKind(kinds.outer, kind, isOuter);
        islands.forget();
        return before;
    }

    public boolean setLenient(boolean isLenient) {
        boolean before = lenient;
        lenient = isLenient;
        islands.forget();
        return before;
    }

    public int quick() {
        islands.startReading();
        int next = 0;
        for (int place = 0; place < text.many; place++) {
            if (place == next) {
                next = place + (text.isEscape(place) ? 2 : readWordAt(place));
            }
        }
        giveUp(islands.openMany, text.many, UNFINISHED);
        return islands.many;
    }

    public int best() {
        marks.find(text, kinds);
        bestReader.fillStretches(marks, kinds);
        bestReader.chooseIslands(marks, kinds, islands);
        return islands.leftOver;
    }

    public boolean hasReading() {
        return islands.isRead;
    }

    public int markCount() {
        marks.find(text, kinds);
        return marks.many;
    }

    public int mark(int mark) throws IndexOutOfBoundsException {
        marks.find(text, kinds);
        if (mark < 0 || mark >= marks.many) {
            throw new IndexOutOfBoundsException("there is no such mark");
        }
        return marks.places[mark];
    }

    public int islandCount() throws IllegalStateException {
        needReading();
        return islands.many;
    }

    public int kind(int island) throws IllegalStateException, IndexOutOfBoundsException {
        needIsland(island);
        return islands.kinds[island];
    }

    public int start(int island) throws IllegalStateException, IndexOutOfBoundsException {
        needIsland(island);
        return islands.starts[island];
    }

    public int end(int island) throws IllegalStateException, IndexOutOfBoundsException {
        needIsland(island);
        return islands.ends[island];
    }

    public int state(int island) throws IllegalStateException, IndexOutOfBoundsException {
        needIsland(island);
        return islands.states[island];
    }

    public int parent(int island) throws IllegalStateException, IndexOutOfBoundsException {
        needIsland(island);
        return islands.parents[island];
    }

    public int depth(int island) throws IllegalStateException, IndexOutOfBoundsException {
        needIsland(island);
        return islands.depths[island];
    }

    public int own(int island) throws IllegalStateException, IndexOutOfBoundsException {
        needIsland(island);
        return islands.ends[island] - islands.starts[island] - islands.bytesOfChildren(island);
    }

    public int at(int place) throws IllegalStateException, IndexOutOfBoundsException {
        needReading();
        needPlace(place);
        return islands.innermostAround(place);
    }

    public int count(int kind, int state) throws IllegalStateException, IndexOutOfBoundsException {
        needReading();
        needKind(kind);
        if (state < 0 || state >= STATE_COUNT) {
            throw new IndexOutOfBoundsException("the state is not 0 to 2");
        }
        int found = 0;
        for (int island = 0; island < islands.many; island++) {
            if (islands.kinds[island] == kind && islands.states[island] == state) {
                found++;
            }
        }
        return found;
    }

    public int water() throws IllegalStateException {
        needReading();
        return text.many - islands.bytesOfChildren(NONE);
    }

    public int left() throws IllegalStateException {
        needReading();
        return islands.leftOver;
    }

    public double share() throws IllegalStateException {
        needReading();
        if (text.many == 0) {
            return 0.0;
        }
        return (double) islands.bytesOfChildren(NONE) / (double) text.many;
    }

    public long digest() {
        long sum = mixed(109L, text.many);
        for (int place = 0; place < text.many; place++) {
            sum = mixed(sum, text.bytes[place]);
        }
        sum = mixed(sum, text.escape);
        sum = mixed(sum, lenient ? 1 : 0);
        for (int kind = 0; kind < KIND_COUNT; kind++) {
            sum = mixed(sum, kinds.isComplete(kind) ? 1 : 0);
            sum = mixed(sum, holdsKind(kinds.raw, kind) ? 1 : 0);
            sum = mixed(sum, holdsKind(kinds.outer, kind) ? 1 : 0);
            sum = mixed(sum, kinds.inner[kind]);
        }
        return islands.isRead ? withIslands(sum) : sum;
    }

    private long withIslands(long before) {
        long sum = mixed(before, islands.many);
        for (int island = 0; island < islands.many; island++) {
            sum = mixed(sum, islands.kinds[island]);
            sum = mixed(sum, islands.starts[island]);
            sum = mixed(sum, islands.ends[island]);
            sum = mixed(sum, islands.states[island]);
        }
        return mixed(sum, islands.leftOver);
    }

    private static long mixed(long sum, int number) {
        return sum * 31L + number;
    }

    private static boolean isTextByte(int value) {
        return value >= LOWEST_BYTE && value <= HIGHEST_BYTE;
    }

    private static boolean holdsKind(int kindSet, int kind) {
        return ((kindSet >> kind) & 1) == 1;
    }

    private static int withKind(int kindSet, int kind, boolean isHeld) {
        return isHeld ? kindSet | (1 << kind) : kindSet & ~(1 << kind);
    }

    private void needPlace(int place) {
        if (!text.hasPlace(place)) {
            throw new IndexOutOfBoundsException("there is no such place");
        }
    }

    private void needKind(int kind) {
        if (kind < 0 || kind >= KIND_COUNT) {
            throw new IndexOutOfBoundsException("the kind is not 0 to 5");
        }
    }

    private void needReading() {
        if (!islands.isRead) {
            throw new IllegalStateException("there is no reading");
        }
    }

    private void needIsland(int island) {
        needReading();
        if (island < 0 || island >= islands.many) {
            throw new IndexOutOfBoundsException("there is no such island");
        }
    }

    /** How far the quick reading goes on: longer words are asked first, as the longest is taken. */
    private int readWordAt(int place) {
        for (int length = LONGEST_WORD; length >= 1; length--) {
            int word = text.wordAt(place, length);
            if (word != NO_WORD && takesWord(word, place, place + length)) {
                return length;
            }
        }
        return 1;
    }

    private boolean takesWord(int word, int place, int behind) {
        int innermost = islands.innermostKind();
        if (kinds.isClosedBy(innermost, word)) {
            islands.finish(behind, WHOLE);
            return true;
        }
        int opened = kinds.openedBy(word) & kinds.allowedIn(innermost);
        if (opened != 0 && islands.openMany < MOST_OPEN_QUICKLY) {
            islands.begin(smallestKind(opened), place);
            return true;
        }
        if (innermost == OUTSIDE || holdsKind(kinds.raw, innermost)) {
            return false;
        }
        return takesOuterClosing(word, place, behind);
    }

    private boolean takesOuterClosing(int word, int place, int behind) {
        int around = islandsInsideClosedBy(word);
        if (around == NONE) {
            return false;
        }
        if (lenient) {
            giveUp(around, place, BROKEN);
            islands.finish(behind, WHOLE);
        } else {
            islands.leftOver++;
        }
        return true;
    }

    /** How many islands are open inside the one, other than the innermost, that the word closes. */
    private int islandsInsideClosedBy(int word) {
        for (int inside = 1; inside < islands.openMany; inside++) {
            if (kinds.isClosedBy(islands.openKind(inside), word)) {
                return inside;
            }
        }
        return NONE;
    }

    private void giveUp(int many, int place, int state) {
        for (int given = 0; given < many; given++) {
            islands.finish(place, state);
        }
    }

    private static int smallestKind(int kindSet) {
        for (int kind = 0; kind < KIND_COUNT; kind++) {
            if (holdsKind(kindSet, kind)) {
                return kind;
            }
        }
        return NONE;
    }

    private static final class Text {
        final int[] bytes;
        int many;
        int escape;

        Text() {
            bytes = new int[MOST_BYTES];
            many = 0;
            escape = NONE;
        }

        boolean hasPlace(int place) {
            return place >= 0 && place < many;
        }

        void append(int value) {
            if (many < MOST_BYTES) {
                bytes[many] = value;
                many++;
            }
        }

        boolean isEscape(int place) {
            return hasPlace(place) && bytes[place] == escape;
        }

        /**
         * The bytes from a place on as one number, the last one lowest, as words are held; NO_WORD
         * where no word can stand. As no byte is 0, words of different lengths differ as numbers.
         */
        int wordAt(int place, int length) {
            if (place < 0 || length < 1 || length > many - place) {
                return NO_WORD;
            }
            int word = NO_WORD;
            for (int i = place; i < place + length; i++) {
                if (isEscape(i)) {
                    return NO_WORD;
                }
                word = (word << 8) | bytes[i];
            }
            return word;
        }
    }

    private static final class Kinds {
        final int[] opening;
        final int[] closing;
        final int[] inner;
        int raw;
        int outer;

        Kinds() {
            opening = new int[KIND_COUNT];
            closing = new int[KIND_COUNT];
            inner = new int[KIND_COUNT];
            for (int kind = 0; kind < KIND_COUNT; kind++) {
                inner[kind] = ALL_KINDS;
            }
            raw = 0;
            outer = ALL_KINDS;
        }

        boolean isComplete(int kind) {
            return kind >= 0 && kind < KIND_COUNT
                    && opening[kind] != NO_WORD && closing[kind] != NO_WORD;
        }

        boolean isClosedBy(int kind, int word) {
            return isComplete(kind) && closing[kind] == word;
        }

        int openedBy(int word) {
            return kindsWith(opening, word);
        }

        int closedBy(int word) {
            return kindsWith(closing, word);
        }

        private int kindsWith(int[] words, int word) {
            int found = 0;
            for (int kind = 0; kind < KIND_COUNT && kind < words.length; kind++) {
                if (words[kind] == word && isComplete(kind)) {
                    found |= 1 << kind;
                }
            }
            return found;
        }

        /** The kinds that can stand directly in an island of a kind, or outside of all islands. */
        int allowedIn(int kind) {
            if (kind == OUTSIDE) {
                return outer;
            }
            if (kind < 0 || kind >= KIND_COUNT || holdsKind(raw, kind)) {
                return 0;
            }
            return inner[kind];
        }
    }

    /** The islands of a reading, and, while it is made, the row of those that are still open. */
    private static final class Islands {
        final int[] kinds;
        final int[] starts;
        final int[] ends;
        final int[] states;
        final int[] parents;
        final int[] depths;
        final int[] open;
        int many;
        int openMany;
        int leftOver;
        boolean isRead;

        Islands() {
            kinds = new int[MOST_BYTES];
            starts = new int[MOST_BYTES];
            ends = new int[MOST_BYTES];
            states = new int[MOST_BYTES];
            parents = new int[MOST_BYTES];
            depths = new int[MOST_BYTES];
            open = new int[MOST_BYTES];
            many = 0;
            openMany = 0;
            leftOver = 0;
            isRead = false;
        }

        void forget() {
            isRead = false;
        }

        void startReading() {
            many = 0;
            openMany = 0;
            leftOver = 0;
            isRead = true;
        }

        void begin(int kind, int start) {
            if (many >= MOST_BYTES || openMany >= MOST_BYTES) {
                return;
            }
            kinds[many] = kind;
            starts[many] = start;
            parents[many] = openIsland(0);
            depths[many] = openMany;
            open[openMany] = many;
            openMany++;
            many++;
        }

        /** Ends the innermost open island. */
        void finish(int end, int state) {
            int island = openIsland(0);
            if (island != NONE) {
                ends[island] = end;
                states[island] = state;
                openMany--;
            }
        }

        /** The open island with so many open islands inside it. */
        int openIsland(int inside) {
            int row = openMany - 1 - inside;
            return row < 0 || row >= MOST_BYTES ? NONE : open[row];
        }

        int openKind(int inside) {
            int island = openIsland(inside);
            return island == NONE ? OUTSIDE : kinds[island];
        }

        int innermostKind() {
            return openKind(0);
        }

        /** Islands that share a parent never overlap, so their sizes can be added up. */
        int bytesOfChildren(int parent) {
            int sum = 0;
            for (int island = 0; island < many; island++) {
                if (parents[island] == parent) {
                    sum += ends[island] - starts[island];
                }
            }
            return sum;
        }

        /** An island inside another one has the higher number, so the highest is the innermost. */
        int innermostAround(int place) {
            for (int island = many - 1; island >= 0; island--) {
                if (starts[island] <= place && place < ends[island]) {
                    return island;
                }
            }
            return NONE;
        }
    }

    private static final class Marks {
        final int[] places;
        final int[] behinds;
        final int[] opened;
        final int[] closed;
        int many;

        Marks() {
            places = new int[MOST_BYTES];
            behinds = new int[MOST_BYTES];
            opened = new int[MOST_BYTES];
            closed = new int[MOST_BYTES];
            many = 0;
        }

        void find(Text text, Kinds kinds) {
            many = 0;
            int next = 0;
            for (int place = 0; place < text.many; place++) {
                if (place == next) {
                    next = place + (text.isEscape(place) ? 2 : findAt(text, kinds, place));
                }
            }
        }

        /** How far the search goes on: longer words are asked first, as the longest is the mark. */
        private int findAt(Text text, Kinds kinds, int place) {
            for (int length = LONGEST_WORD; length >= 1; length--) {
                int word = text.wordAt(place, length);
                int opens = kinds.openedBy(word);
                int closes = kinds.closedBy(word);
                if ((opens | closes) != 0 && many < MOST_BYTES) {
                    places[many] = place;
                    behinds[many] = place + length;
                    opened[many] = opens;
                    closed[many] = closes;
                    many++;
                    return length;
                }
            }
            return 1;
        }
    }

    /**
     * Finds the fewest unused marks of every stretch of marks that an island, or the outside, could
     * hold, the shorter stretches first, and then chooses the islands from the first mark on.
     */
    private static final class BestReader {
        private static final int ROW = MOST_BYTES + 1;
        private static final int VALUE_BITS = 8;

        /** For a stretch the values of all that could hold it share one number, to save room. */
        private final long[] stretches;
        /** The mark that closes an island of the reading. */
        private final int[] closers;

        BestReader() {
            stretches = new long[ROW * ROW];
            closers = new int[MOST_BYTES];
        }

        /** Only stretches up to a mark that closes their holder, or up to the end, are asked for. */
        void fillStretches(Marks marks, Kinds kinds) {
            for (int to = 0; to < marks.many; to++) {
                int holders = marks.closed[to] & ~kinds.raw;
                for (int kind = 0; kind < KIND_COUNT; kind++) {
                    if (holdsKind(holders, kind)) {
                        fillStretchesTo(to, kind, marks, kinds);
                    }
                }
            }
            fillStretchesTo(marks.many, OUTSIDE, marks, kinds);
        }

        private void fillStretchesTo(int to, int holder, Marks marks, Kinds kinds) {
            int allowed = kinds.allowedIn(holder);
            keep(to, to, holder, 0);
            for (int from = to - 1; from >= 0; from--) {
                int least = 1 + fewest(from + 1, to, holder);
                int opened = marks.opened[from] & allowed;
                if (opened != 0) {
                    least = Math.min(least, fewestIfOpening(from, to, holder, opened, marks, kinds));
                }
                keep(from, to, holder, least);
            }
        }

        private int fewestIfOpening(
                int from, int to, int holder, int opened, Marks marks, Kinds kinds) {
            int least = MOST_BYTES;
            for (int partner = from + 1; partner < to && least > 0; partner++) {
                int paired = opened & marks.closed[partner];
                if (paired != 0) {
                    int behind = fewest(partner + 1, to, holder);
                    least = Math.min(least, behind + fewestBetween(from, partner, paired, kinds));
                }
            }
            return least;
        }

        private int fewestBetween(int from, int partner, int paired, Kinds kinds) {
            int least = MOST_BYTES;
            for (int kind = 0; kind < KIND_COUNT; kind++) {
                if (holdsKind(paired, kind)) {
                    least = Math.min(least, fewestInside(from, partner, kind, kinds));
                }
            }
            return least;
        }

        private int fewestInside(int from, int partner, int kind, Kinds kinds) {
            return holdsKind(kinds.raw, kind) ? 0 : fewest(from + 1, partner, kind);
        }

        void chooseIslands(Marks marks, Kinds kinds, Islands islands) {
            islands.startReading();
            for (int mark = 0; mark < marks.many; mark++) {
                int around = islands.openIsland(0);
                int to = around == NONE ? marks.many : closers[around];
                if (mark == to) {
                    islands.finish(marks.behinds[mark], WHOLE);
                } else {
                    beginAt(mark, to, marks, kinds, islands);
                }
            }
            islands.leftOver = fewest(0, marks.many, OUTSIDE);
        }

        /** Of the readings that are best, the smallest kind and then the nearest partner go first. */
        private void beginAt(int mark, int to, Marks marks, Kinds kinds, Islands islands) {
            int holder = islands.innermostKind();
            int opened = marks.opened[mark] & kinds.allowedIn(holder);
            for (int kind = 0; kind < KIND_COUNT; kind++) {
                int partner = holdsKind(opened, kind)
                        ? bestPartner(mark, to, kind, holder, marks, kinds) : NONE;
                if (partner != NONE && islands.many < MOST_BYTES) {
                    closers[islands.many] = partner;
                    islands.begin(kind, marks.places[mark]);
                    return;
                }
            }
        }

        private int bestPartner(int mark, int to, int kind, int holder, Marks marks, Kinds kinds) {
            int least = fewest(mark, to, holder);
            for (int partner = mark + 1; partner < to; partner++) {
                if (holdsKind(marks.closed[partner], kind)
                        && fewestInside(mark, partner, kind, kinds)
                                + fewest(partner + 1, to, holder) == least) {
                    return partner;
                }
            }
            return NONE;
        }

        private int fewest(int from, int to, int holder) {
            int cell = from * ROW + to;
            if (cell < 0 || cell >= stretches.length) {
                return 0;
            }
            return (int) (stretches[cell] >>> (VALUE_BITS * holder)) & 255;
        }

        private void keep(int from, int to, int holder, int value) {
            int cell = from * ROW + to;
            if (cell >= 0 && cell < stretches.length) {
                int shift = VALUE_BITS * holder;
                stretches[cell] = (stretches[cell] & ~(255L << shift)) | ((long) value << shift);
            }
        }
    }
}

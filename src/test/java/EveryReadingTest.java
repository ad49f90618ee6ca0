import java.util.ArrayList;
import java.util.Arrays;
import java.util.List;
import java.util.Random;

/**
 * All short texts of two signs, in all sorts of kinds. A best reading is looked for among all sets of
 * pairs, whether they are allowed or not, each tested by the document's sentences one by one; a quick
 * reading is compared with the reference.
 */
public final class EveryReadingTest {
    private static final Checks CHECKS = new Checks("EveryReadingTest");
    private static final List<String> TEXTS = texts(6);
    private static final String[] WORDS = {"a", "b", "aa", "ab", "ba", "bb", "aba"};

    /** Holds the text and the kinds, finds the marks, and makes the quick reading. */
    private final Reference kinds = new Reference();
    private final int kindCount;

    private List<String> words;
    private List<Integer> places;
    private int[] partners;
    private int[] opened;
    private int[] bestPartners;
    private int[] bestOpened;

    private EveryReadingTest(int kindCount) {
        this.kindCount = kindCount;
    }

    public static void main(String[] args) {
        oneKind();
        twoKindsOfSigns();
        someKinds();
        CHECKS.end();
    }

    private static List<String> texts(int longest) {
        List<String> all = new ArrayList<>(List.of(""));
        for (int i = 0; all.get(i).length() < longest; i++) {
            all.add(all.get(i) + "a");
            all.add(all.get(i) + "b");
        }
        return all;
    }

    private static void oneKind() {
        CHECKS.part("one kind");
        for (int setting = 0; setting < WORDS.length * WORDS.length * 8; setting++) {
            EveryReadingTest test = new EveryReadingTest(1);
            test.kinds.opening[0] = WORDS[setting / 8 % WORDS.length];
            test.kinds.closing[0] = WORDS[setting / 8 / WORDS.length];
            test.setKind(0, setting % 8, 1);
            test.readAll(TEXTS);
        }
    }

    /** Every way in which two kinds can have the words a and b, and can stand in one another or not. */
    private static void twoKindsOfSigns() {
        CHECKS.part("two kinds");
        List<String> longest = TEXTS.stream().filter(text -> text.length() == 5).toList();
        for (int setting = 0; setting < 16 * 256; setting++) {
            EveryReadingTest test = new EveryReadingTest(2);
            for (int kind = 0; kind < 2; kind++) {
                test.kinds.opening[kind] = WORDS[setting >> 2 * kind & 1];
                test.kinds.closing[kind] = WORDS[setting >> 2 * kind + 1 & 1];
                test.setKind(kind, setting >> 4 + 4 * kind & 15, 2);
            }
            test.readAll(longest);
        }
    }

    private static void someKinds() {
        Random random = new Random(29);
        for (int setting = 0; setting < 1500; setting++) {
            CHECKS.part("some kinds, setting " + setting);
            EveryReadingTest test = new EveryReadingTest(3);
            int many = setting % 3 == 0 ? 2 : WORDS.length;
            for (int kind = 0; kind < 3; kind++) {
                test.kinds.opening[kind] = WORDS[random.nextInt(many)];
                test.kinds.closing[kind] = WORDS[random.nextInt(many)];
                test.setKind(kind, random.nextInt(32), 3);
            }
            test.kinds.escape = setting % 5 == 0 ? 'b' : -1;
            test.readAll(TEXTS);
        }
    }

    /** The lowest bits are the inner set, the next one is raw, the highest one is not outside. */
    private void setKind(int kind, int bits, int innerBits) {
        kinds.inner[kind] = bits & (1 << innerBits) - 1;
        kinds.raw[kind] = (bits >> innerBits & 1) == 1;
        kinds.outer[kind] = (bits >> innerBits + 1 & 1) == 0;
    }

    private void readAll(List<String> texts) {
        for (String text : texts) {
            read(text);
        }
    }

    private void read(String text) {
        IslandParser parser = parser(text);
        kinds.text = text;
        findBest();
        CHECKS.same(told() + ", best", parser.best(), unused(bestPartners, bestOpened));
        CHECKS.same(told() + ", its islands", Parsers.reading(parser), bestReading());
        for (int lenient = 0; lenient < 2; lenient++) {
            kinds.lenient = lenient == 1;
            parser.setLenient(kinds.lenient);
            kinds.quick();
            CHECKS.same(told() + ", quick", parser.quick(), kinds.islands.size());
            CHECKS.same(told() + ", its islands", parser.digest(), kinds.digest());
        }
    }

    private IslandParser parser(String text) {
        IslandParser parser = new IslandParser();
        for (int kind = 0; kind < kindCount; kind++) {
            String opening = kinds.opening[kind];
            String closing = kinds.closing[kind];
            parser.setWord(kind, false, (int) Parsers.packed(opening), opening.length());
            parser.setWord(kind, true, (int) Parsers.packed(closing), closing.length());
            parser.setKind(kind, kinds.raw[kind], kinds.outer[kind], kinds.inner[kind]);
        }
        parser.setEscape(kinds.escape);
        Parsers.feed(parser, text);
        return parser;
    }

    private String told() {
        StringBuilder told = new StringBuilder("'" + kinds.text + "' escape " + kinds.escape);
        for (int kind = 0; kind < kindCount; kind++) {
            told.append(' ').append(kinds.opening[kind]).append(' ').append(kinds.closing[kind])
                    .append(kinds.raw[kind] ? " raw" : "").append(kinds.outer[kind] ? " outer " : " ")
                    .append(kinds.inner[kind]);
        }
        return told.toString();
    }

    // ---- the best reading, by the document's sentences

    private void findBest() {
        words = kinds.markWords();
        places = kinds.markPlaces();
        partners = new int[words.size()];
        opened = new int[words.size()];
        Arrays.fill(partners, -1);
        Arrays.fill(opened, -1);
        bestPartners = null;
        tryPairs(0);
    }

    /** Goes through all sets of pairs in which each mark is in at most one pair, with a later partner. */
    private void tryPairs(int mark) {
        if (mark == words.size()) {
            if (isReading() && (bestPartners == null || isBetter())) {
                bestPartners = partners.clone();
                bestOpened = opened.clone();
            }
            return;
        }
        tryPairs(mark + 1);
        for (int to = mark + 1; partners[mark] < 0 && to < words.size(); to++) {
            for (int kind = 0; partners[to] < 0 && kind < kindCount; kind++) {
                partners[mark] = to;
                partners[to] = mark;
                opened[mark] = kind;
                tryPairs(mark + 1);
                partners[mark] = -1;
                partners[to] = -1;
                opened[mark] = -1;
            }
        }
    }

    private boolean isReading() {
        for (int from = 0; from < words.size(); from++) {
            if (opened[from] >= 0 && !(isOfOneKind(from) && crossesNone(from) && isAllowed(from)
                    && isAloneIfRaw(from))) {
                return false;
            }
        }
        return true;
    }

    private boolean isOfOneKind(int from) {
        return words.get(from).equals(kinds.opening[opened[from]])
                && words.get(partners[from]).equals(kinds.closing[opened[from]]);
    }

    private boolean crossesNone(int from) {
        for (int other = from + 1; other < partners[from]; other++) {
            if (opened[other] >= 0 && partners[other] > partners[from]) {
                return false;
            }
        }
        return true;
    }

    private boolean isAllowed(int from) {
        for (int around = from - 1; around >= 0; around--) {
            if (opened[around] >= 0 && partners[around] > partners[from]) {
                return (kinds.inner[opened[around]] >> opened[from] & 1) == 1;
            }
        }
        return kinds.outer[opened[from]];
    }

    private boolean isAloneIfRaw(int from) {
        for (int inside = from + 1; kinds.raw[opened[from]] && inside < partners[from]; inside++) {
            if (partners[inside] >= 0) {
                return false;
            }
        }
        return true;
    }

    private int unused(int[] pairs, int[] kindsOpened) {
        int unused = 0;
        for (int mark = 0; mark < pairs.length; mark++) {
            unused += pairs[mark] < 0 && !isInRaw(mark, pairs, kindsOpened) ? 1 : 0;
        }
        return unused;
    }

    private boolean isInRaw(int mark, int[] pairs, int[] kindsOpened) {
        for (int from = 0; from < mark; from++) {
            if (kindsOpened[from] >= 0 && pairs[from] > mark && kinds.raw[kindsOpened[from]]) {
                return true;
            }
        }
        return false;
    }

    private boolean isBetter() {
        int unused = unused(partners, opened);
        int bestUnused = unused(bestPartners, bestOpened);
        if (unused != bestUnused) {
            return unused < bestUnused;
        }
        for (int mark = 0; mark < partners.length; mark++) {
            if (opened[mark] != bestOpened[mark] || partners[mark] != bestPartners[mark]) {
                return comesBefore(mark);
            }
        }
        return false;
    }

    private boolean comesBefore(int mark) {
        if (opened[mark] < 0 || bestOpened[mark] < 0) {
            return opened[mark] >= 0;
        }
        return opened[mark] != bestOpened[mark] ? opened[mark] < bestOpened[mark]
                : partners[mark] < bestPartners[mark];
    }

    private String bestReading() {
        StringBuilder told = new StringBuilder();
        for (int mark = 0; mark < bestPartners.length; mark++) {
            if (bestOpened[mark] >= 0) {
                int to = bestPartners[mark];
                told.append(bestOpened[mark]).append(':').append(places.get(mark)).append('-')
                        .append(places.get(to) + words.get(to).length()).append("w ");
            }
        }
        return told.append("left ").append(unused(bestPartners, bestOpened)).toString();
    }
}

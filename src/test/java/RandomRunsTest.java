import java.util.List;
import java.util.Random;

/** Random runs of calls, each answer compared with that of the reference; the seeds are fixed. */
public final class RandomRunsTest {
    private static final Checks CHECKS = new Checks("RandomRunsTest");
    private static final int MOST_TRIED_MARKS = 9;

    private final Random random;
    private final IslandParser parser = new IslandParser();
    private final Reference reference = new Reference();
    private final String alphabet;

    private RandomRunsTest(long seed) {
        random = new Random(seed);
        alphabet = List.of("ab", "abc", "(){}x", "()[]<>/*x\\", "a").get(random.nextInt(5));
    }

    public static void main(String[] args) {
        for (int seed = 0; seed < 4000; seed++) {
            CHECKS.part("seed " + seed);
            new RandomRunsTest(seed).run();
        }
        for (int seed = 0; seed < 1500; seed++) {
            CHECKS.part("full text, seed " + seed);
            new RandomRunsTest(seed).readFullText();
        }
        CHECKS.end();
    }

    /** Up to 48 marks, which the other runs seldom have, in kinds that are all complete. */
    private void readFullText() {
        int kinds = 2 + random.nextInt(5);
        int longest = 1 + random.nextInt(2);
        for (int kind = 0; kind < kinds; kind++) {
            setSomeWord(kind, false, 1 + random.nextInt(longest));
            setSomeWord(kind, true, 1 + random.nextInt(longest));
            if (random.nextInt(3) != 0) {
                callSetKind();
            }
        }
        reference.text = signs(48 - random.nextInt(3));
        Parsers.feed(parser, reference.text);
        reference.islands = null;
        callBest();
        askAll();
        callSetLenient();
        callQuick();
        askAll();
    }

    private void setSomeWord(int kind, boolean isClosing, int many) {
        String word = signs(many);
        (isClosing ? reference.closing : reference.opening)[kind] = word;
        CHECKS.same("setWord " + kind + " " + isClosing + " " + word,
                parser.setWord(kind, isClosing, (int) Parsers.packed(word), many), reference.complete(kind));
    }

    private void run() {
        int kinds = 1 + random.nextInt(6);
        for (int kind = 0; kind < kinds; kind++) {
            callSetWord(kind, false);
            callSetWord(kind, true);
        }
        for (int call = 0; call < 60; call++) {
            callAny();
        }
    }

    private char sign() {
        return alphabet.charAt(random.nextInt(alphabet.length()));
    }

    private String signs(int many) {
        StringBuilder text = new StringBuilder();
        for (int i = 0; i < many; i++) {
            text.append(sign());
        }
        return text.toString();
    }

    private void callAny() {
        switch (random.nextInt(16)) {
            case 0 -> callFeed();
            case 1 -> callCut();
            case 2 -> callSet();
            case 3 -> callSetEscape();
            case 4 -> callSetWord(random.nextInt(8) - 1, random.nextBoolean());
            case 5, 6 -> callSetKind();
            case 7 -> callSetLenient();
            case 8, 9, 10, 11 -> callQuick();
            case 12, 13, 14 -> callBest();
            default -> callFeed();
        }
        askAll();
    }

    private void callFeed() {
        String text = signs(random.nextInt(9));
        long bytes = 0;
        for (int i = 0; i < text.length(); i++) {
            bytes = bytes << 8 | text.charAt(i);
        }
        if (random.nextInt(8) == 0) {
            bytes &= ~(255L << 8 * random.nextInt(8));
        }
        boolean isBad = random.nextInt(20) == 0;
        if (isBad) {
            int shift = 8 * random.nextInt(8);
            bytes = bytes & ~(255L << shift) | (random.nextBoolean() ? 31L : 200L) << shift;
        }
        StringBuilder added = new StringBuilder();
        for (int shift = 56; shift >= 0; shift -= 8) {
            int value = (int) (bytes >> shift & 255);
            added.append(value == 0 ? "" : String.valueOf((char) value));
        }
        String want = "throws IllegalStateException";
        if (isBad) {
            want = "throws IllegalArgumentException";
        } else if (reference.text.length() + added.length() <= 48) {
            reference.text += added;
            reference.islands = null;
            want = "" + reference.text.length();
        }
        long fed = bytes;
        CHECKS.same("feed " + bytes, Checks.outcome(() -> parser.feed(fed)), want);
    }

    private void callCut() {
        int many = random.nextInt(random.nextInt(4) == 0 ? 60 : 12) - 1;
        String want = "throws IllegalArgumentException";
        if (many >= 0 && many <= reference.text.length()) {
            reference.text = reference.text.substring(0, reference.text.length() - many);
            reference.islands = null;
            want = "" + reference.text.length();
        }
        CHECKS.same("cut " + many, Checks.outcome(() -> parser.cut(many)), want);
    }

    private void callSet() {
        int place = random.nextInt(reference.text.length() + 3) - 1;
        int value = random.nextInt(8) == 0 ? List.of(31, 127, -1, 355).get(random.nextInt(4)) : sign();
        String want = "throws IndexOutOfBoundsException";
        if (place >= 0 && place < reference.text.length()) {
            want = "throws IllegalArgumentException";
            if (value >= 32 && value <= 126) {
                want = "" + (int) reference.text.charAt(place);
                reference.text = reference.text.substring(0, place) + (char) value
                        + reference.text.substring(place + 1);
                reference.islands = null;
            }
        }
        CHECKS.same("set " + place + " " + value, Checks.outcome(() -> parser.set(place, value)), want);
    }

    private void callSetEscape() {
        int value = random.nextInt(3) == 0 ? List.of(-1, -1, 31, 127, -2).get(random.nextInt(5)) : sign();
        String want = "throws IllegalArgumentException";
        if (value == -1 || value >= 32 && value <= 126) {
            want = "" + reference.escape;
            reference.escape = value;
            reference.islands = null;
        }
        CHECKS.same("setEscape " + value, Checks.outcome(() -> parser.setEscape(value)), want);
    }

    private void callSetWord(int kind, boolean isClosing) {
        int many = random.nextInt(30) == 0 ? List.of(0, 4, -1).get(random.nextInt(3))
                : 1 + random.nextInt(random.nextInt(3) + 1);
        String word = signs(3);
        int bytes = (int) Parsers.packed(word) | random.nextInt() << 24;
        String want = "throws IndexOutOfBoundsException";
        if (kind >= 0 && kind < 6) {
            want = "throws IllegalArgumentException";
            if (many >= 0 && many <= 3) {
                (isClosing ? reference.closing : reference.opening)[kind] =
                        many == 0 ? null : word.substring(3 - many);
                reference.islands = null;
                want = "" + reference.complete(kind);
            }
        }
        CHECKS.same("setWord " + kind + " " + isClosing + " " + word + " " + many,
                Checks.outcome(() -> parser.setWord(kind, isClosing, bytes, many)), want);
    }

    private void callSetKind() {
        int kind = random.nextInt(20) == 0 ? 6 : random.nextInt(6);
        boolean isRaw = random.nextInt(4) == 0;
        boolean isOuter = random.nextInt(4) != 0;
        int inner = random.nextInt(20) == 0 ? 64 : random.nextInt(64);
        String want = "throws IndexOutOfBoundsException";
        if (kind < 6) {
            want = "throws IllegalArgumentException";
            if (inner < 64) {
                want = "" + reference.inner[kind];
                reference.inner[kind] = inner;
                reference.raw[kind] = isRaw;
                reference.outer[kind] = isOuter;
                reference.islands = null;
            }
        }
        CHECKS.same("setKind " + kind, Checks.outcome(() -> parser.setKind(kind, isRaw, isOuter, inner)),
                want);
    }

    private void callSetLenient() {
        boolean isLenient = random.nextBoolean();
        CHECKS.same("setLenient", parser.setLenient(isLenient), reference.lenient);
        reference.lenient = isLenient;
        reference.islands = null;
    }

    private void callQuick() {
        reference.quick();
        CHECKS.same("quick", parser.quick(), reference.islands.size());
    }

    private void callBest() {
        if (reference.markPlaces().size() <= MOST_TRIED_MARKS) {
            reference.best();
            String tried = reference.islands + " " + reference.left;
            reference.bestOfMany();
            CHECKS.same("the reference's two ways", reference.islands + " " + reference.left, tried);
        } else {
            reference.bestOfMany();
        }
        CHECKS.same("best", parser.best(), reference.left);
    }

    private void askAll() {
        CHECKS.same("text", Parsers.text(parser), reference.text);
        CHECKS.same("size", parser.size(), reference.text.length());
        CHECKS.same("hasReading", parser.hasReading(), reference.islands != null);
        CHECKS.same("digest", parser.digest(), reference.digest());
        List<Integer> places = reference.markPlaces();
        CHECKS.same("markCount", parser.markCount(), places.size());
        int mark = random.nextInt(places.size() + 2) - 1;
        CHECKS.same("mark " + mark, Checks.outcome(() -> parser.mark(mark)),
                mark >= 0 && mark < places.size() ? "" + places.get(mark)
                        : "throws IndexOutOfBoundsException");
        if (reference.islands != null) {
            askReading();
        }
    }

    private void askReading() {
        CHECKS.same("islandCount", parser.islandCount(), reference.islands.size());
        for (int i = 0; i < reference.islands.size(); i++) {
            Reference.Island island = reference.islands.get(i);
            CHECKS.same("kind " + i, parser.kind(i), island.kind());
            CHECKS.same("start " + i, parser.start(i), island.start());
            CHECKS.same("end " + i, parser.end(i), island.end());
            CHECKS.same("state " + i, parser.state(i), island.state());
            CHECKS.same("parent " + i, parser.parent(i), reference.parent(i));
            CHECKS.same("depth " + i, parser.depth(i), reference.depth(i));
            CHECKS.same("own " + i, parser.own(i), reference.own(i));
        }
        for (int place = 0; place < reference.text.length(); place++) {
            CHECKS.same("at " + place, parser.at(place), reference.at(place));
        }
        int kind = random.nextInt(6);
        int state = random.nextInt(3);
        CHECKS.same("count " + kind + " " + state, parser.count(kind, state), (int) reference.islands
                .stream().filter(i -> i.kind() == kind && i.state() == state).count());
        CHECKS.same("water", parser.water(), reference.water());
        CHECKS.same("left", parser.left(), reference.left);
        CHECKS.same("share", parser.share(), reference.share());
    }
}

import com.sun.management.ThreadMXBean;
import java.lang.management.ManagementFactory;
import java.util.Random;

/** Readings make no objects, and the longest runs on the dearest texts come to an end. */
public final class RoomTest {
    private static final Checks CHECKS = new Checks("RoomTest");

    public static void main(String[] args) {
        CHECKS.part("room");
        dearestRun(dearest());
        IslandParser parser = dearest();
        long thread = Thread.currentThread().getId();
        ThreadMXBean bean = (ThreadMXBean) ManagementFactory.getThreadMXBean();
        long before = bean.getThreadAllocatedBytes(thread);
        long empty = bean.getThreadAllocatedBytes(thread) - before;
        before = bean.getThreadAllocatedBytes(thread);
        dearestRun(parser);
        long made = bean.getThreadAllocatedBytes(thread) - before - empty;
        CHECKS.same("500 calls make objects", made > 0, false);
        CHECKS.same("the last reading", parser.islandCount(), 24);
        anyArguments();
        CHECKS.end();
    }

    private static IslandParser dearest() {
        IslandParser parser = Parsers.with("a", "a", "a", "a", "a", "a", "a", "a", "a", "a", "a", "a");
        Parsers.feed(parser, "a".repeat(48));
        return parser;
    }

    private static void dearestRun(IslandParser parser) {
        for (int round = 0; round < 100; round++) {
            parser.set(0, 'a');
            parser.quick();
            parser.markCount();
            parser.digest();
            parser.best();
        }
    }

    /** Whatever the arguments are, nothing but the three exceptions of the document is thrown. */
    private static void anyArguments() {
        Random random = new Random(5);
        for (int run = 0; run < 300; run++) {
            IslandParser parser = run % 2 == 0 ? dearest() : new IslandParser();
            for (int call = 0; call < 500; call++) {
                String outcome = anyCall(parser, random);
                boolean isKnown = !outcome.startsWith("throws ") || outcome.matches(
                        "throws (IllegalState|IllegalArgument|IndexOutOfBounds)Exception");
                CHECKS.same(outcome, isKnown, true);
            }
        }
    }

    private static int any(Random random) {
        int[] edges = {Integer.MIN_VALUE, Integer.MAX_VALUE, -2, -1, 0, 1, 2, 3, 5, 6, 31, 32, 47, 48, 49,
            63, 64, 97, 126, 127, 128, 255, 256};
        return random.nextInt(4) == 0 ? random.nextInt() : edges[random.nextInt(edges.length)];
    }

    private static String anyCall(IslandParser parser, Random random) {
        int a = any(random);
        int b = any(random);
        int c = any(random);
        boolean d = random.nextBoolean();
        boolean e = random.nextBoolean();
        return switch (random.nextInt(24)) {
            case 0 -> Checks.outcome(() -> parser.feed((long) a << 32 ^ b));
            case 1 -> Checks.outcome(() -> parser.feed(0x6161616161616161L));
            case 2 -> Checks.outcome(() -> parser.cut(a));
            case 3 -> Checks.outcome(() -> parser.set(a, b));
            case 4 -> Checks.outcome(() -> parser.byteAt(a));
            case 5 -> Checks.outcome(() -> parser.setEscape(a));
            case 6 -> Checks.outcome(() -> parser.setWord(a, d, b, c));
            case 7 -> Checks.outcome(() -> parser.setKind(a, d, e, c));
            case 8 -> Checks.outcome(() -> parser.setLenient(d));
            case 9 -> Checks.outcome(() -> parser.mark(a));
            case 10 -> Checks.outcome(() -> parser.kind(a));
            case 11 -> Checks.outcome(() -> parser.start(a));
            case 12 -> Checks.outcome(() -> parser.end(a));
            case 13 -> Checks.outcome(() -> parser.state(a));
            case 14 -> Checks.outcome(() -> parser.parent(a));
            case 15 -> Checks.outcome(() -> parser.depth(a));
            case 16 -> Checks.outcome(() -> parser.own(a));
            case 17 -> Checks.outcome(() -> parser.at(a));
            case 18 -> Checks.outcome(() -> parser.count(a, b));
            case 19 -> Checks.outcome(() -> parser.share());
            case 20 -> Checks.outcome(() -> parser.water() + parser.left());
            case 21 -> Checks.outcome(() -> parser.setWord(Math.floorMod(a, 6), d, 0x616161, 1));
            case 22 -> Checks.outcome(() -> parser.quick());
            default -> Checks.outcome(() -> parser.best());
        };
    }
}

import java.util.Objects;

/** Counts the checks of a test, prints those that fail, and ends with the exit code that is due. */
final class Checks {
    interface Call {
        Object answer();
    }

    static final Class<?> STATE = IllegalStateException.class;
    static final Class<?> ARGUMENT = IllegalArgumentException.class;
    static final Class<?> INDEX = IndexOutOfBoundsException.class;

    private final String name;
    private String part = "";
    private int made = 0;
    private int wrong = 0;

    Checks(String name) {
        this.name = name;
    }

    void part(String title) {
        part = title;
    }

    void same(String what, Object got, Object want) {
        made++;
        if (!Objects.equals(got, want)) {
            wrong++;
            System.out.println(name + ", " + part + ": " + what + " is " + got + ", due is " + want);
        }
    }

    /** The exception must be of this very class: what the machine throws is often a class below. */
    void fails(String what, IslandParser parser, Class<?> want, Call call) {
        long before = parser.digest();
        boolean hadReading = parser.hasReading();
        same(what, outcome(call), "throws " + want.getSimpleName());
        same(what + ", the digest behind it", parser.digest(), before);
        same(what + ", hasReading behind it", parser.hasReading(), hadReading);
    }

    static String outcome(Call call) {
        try {
            return String.valueOf(call.answer());
        } catch (RuntimeException e) {
            return "throws " + e.getClass().getSimpleName();
        }
    }

    void end() {
        System.out.println(name + ": " + made + " checks, " + wrong + " wrong");
        System.exit(wrong == 0 && made > 0 ? 0 : 1);
    }
}

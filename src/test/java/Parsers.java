/** Makes parsers for tests, and writes a reading as a text that is easy to compare. */
final class Parsers {
    private Parsers() {
    }

    /** A parser whose kinds, from 0 on, have the words given in pairs; null leaves a word out. */
    static IslandParser with(String... words) {
        IslandParser parser = new IslandParser();
        for (int i = 0; i < words.length; i++) {
            if (words[i] != null) {
                parser.setWord(i / 2, i % 2 == 1, (int) packed(words[i]), words[i].length());
            }
        }
        return parser;
    }

    static long packed(String text) {
        long number = 0;
        for (int i = 0; i < text.length(); i++) {
            number = number << 8 | text.charAt(i);
        }
        return number;
    }

    static int feed(IslandParser parser, String text) {
        int size = parser.size();
        for (int i = 0; i < text.length(); i += 8) {
            size = parser.feed(packed(text.substring(i, Math.min(text.length(), i + 8))));
        }
        return size;
    }

    static IslandParser reset(IslandParser parser, String text) {
        parser.cut(parser.size());
        feed(parser, text);
        return parser;
    }

    static String text(IslandParser parser) {
        StringBuilder text = new StringBuilder();
        for (int place = 0; place < parser.size(); place++) {
            text.append((char) parser.byteAt(place));
        }
        return text.toString();
    }

    /** The islands as kind:start-end with w, b or u for the state, and behind them what is left. */
    static String reading(IslandParser parser) {
        StringBuilder told = new StringBuilder();
        for (int island = 0; island < parser.islandCount(); island++) {
            told.append(parser.kind(island)).append(':').append(parser.start(island)).append('-')
                    .append(parser.end(island)).append("wbu".charAt(parser.state(island))).append(' ');
        }
        return told.append("left ").append(parser.left()).toString();
    }

    static String quick(IslandParser parser, String text) {
        reset(parser, text).quick();
        return reading(parser);
    }

    static String best(IslandParser parser, String text) {
        reset(parser, text).best();
        return reading(parser);
    }

    static String marks(IslandParser parser, String text) {
        reset(parser, text);
        StringBuilder told = new StringBuilder();
        for (int mark = 0; mark < parser.markCount(); mark++) {
            told.append(told.length() == 0 ? "" : " ").append(parser.mark(mark));
        }
        return told.toString();
    }
}

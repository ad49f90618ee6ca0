/** Writes down all that an object can tell, so that two objects can be compared as wholes. */
final class Snapshots {
    private Snapshots() {
    }

    /** What the asking methods answer; it changes nothing. */
    static String told(IslandParser parser) {
        StringBuilder told = new StringBuilder();
        told.append(parser.size()).append(" '").append(Parsers.text(parser)).append("' marks");
        for (int mark = 0; mark < parser.markCount(); mark++) {
            told.append(' ').append(parser.mark(mark));
        }
        told.append(" digest ").append(parser.digest());
        return parser.hasReading() ? told + " " + reading(parser) : told + " no reading";
    }

    private static String reading(IslandParser parser) {
        StringBuilder told = new StringBuilder(Parsers.reading(parser));
        for (int island = 0; island < parser.islandCount(); island++) {
            told.append(" [").append(parser.parent(island)).append(' ').append(parser.depth(island))
                    .append(' ').append(parser.own(island)).append(']');
        }
        for (int place = 0; place < parser.size(); place++) {
            told.append(' ').append(parser.at(place));
        }
        for (int kind = 0; kind < 6; kind++) {
            for (int state = 0; state < 3; state++) {
                told.append(' ').append(parser.count(kind, state));
            }
        }
        return told.append(" water ").append(parser.water()).append(" share ").append(parser.share())
                .toString();
    }

    /**
     * What it tells now, what its setters say was set before, and how it reads texts in which its
     * words stand: no method tells a word. The object is of no use afterwards.
     */
    static String all(IslandParser parser, String... texts) {
        StringBuilder told = new StringBuilder(told(parser));
        for (String text : texts) {
            told.append('\n').append(Parsers.quick(parser, text)).append(" | ")
                    .append(Parsers.best(parser, text));
        }
        told.append('\n').append(parser.setLenient(true)).append(' ').append(parser.setEscape(-1));
        for (int kind = 0; kind < 6; kind++) {
            told.append(' ').append(parser.setKind(kind, false, true, 63));
        }
        for (String text : texts) {
            told.append('\n').append(Parsers.quick(parser, text)).append(" | ")
                    .append(Parsers.marks(parser, text)).append(" | ").append(Parsers.best(parser, text));
        }
        return told.toString();
    }
}

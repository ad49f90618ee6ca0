import java.util.ArrayList;
import java.util.Arrays;
import java.util.List;

/**
 * The document's class written a second time, in another way: words as Strings, a best reading by
 * trying every reading, or, of many marks, by comparing whole readings. It is slow and only for tests;
 * exceptions are told as texts.
 */
final class Reference {
    record Island(int kind, int start, int end, int state) {
    }

    record Pair(int kind, int from, int to) {
    }

    String text = "";
    int escape = -1;
    boolean lenient = true;
    final String[] opening = new String[6];
    final String[] closing = new String[6];
    final boolean[] raw = new boolean[6];
    final boolean[] outer = {true, true, true, true, true, true};
    final int[] inner = {63, 63, 63, 63, 63, 63};
    List<Island> islands = null;
    int left = 0;

    boolean complete(int kind) {
        return opening[kind] != null && closing[kind] != null;
    }

    private boolean stands(String word, int place) {
        return word != null && text.startsWith(word, place)
                && (escape < 0 || word.indexOf(escape) < 0);
    }

    private boolean allowed(int kind, int around) {
        return around < 0 ? outer[kind] : !raw[around] && (inner[around] >> kind & 1) == 1;
    }

    // ---- quick

    private record Choice(int length, int group, int which) {
        boolean isBetterThan(Choice other) {
            if (other == null || length != other.length) {
                return other == null || length > other.length;
            }
            return group < other.group;
        }
    }

    private static final class Open {
        int kind;
        int start;
        int end;
        int state;
    }

    void quick() {
        List<Open> all = new ArrayList<>();
        List<Open> open = new ArrayList<>();
        left = 0;
        int place = 0;
        while (place < text.length()) {
            if (text.charAt(place) == escape) {
                place += 2;
                continue;
            }
            Choice choice = choiceAt(place, open);
            if (choice == null) {
                place++;
                continue;
            }
            take(choice, place, all, open);
            place += choice.length;
        }
        for (Open island : open) {
            island.end = text.length();
            island.state = 2;
        }
        islands = new ArrayList<>();
        for (Open island : all) {
            islands.add(new Island(island.kind, island.start, island.end, island.state));
        }
    }

    private Choice choiceAt(int place, List<Open> open) {
        List<Choice> choices = new ArrayList<>();
        int last = open.size() - 1;
        int around = last < 0 ? -1 : open.get(last).kind;
        if (last >= 0 && stands(closing[around], place)) {
            choices.add(new Choice(closing[around].length(), 0, last));
        }
        for (int kind = 0; kind < 6 && open.size() < 8; kind++) {
            if (complete(kind) && allowed(kind, around) && stands(opening[kind], place)) {
                choices.add(new Choice(opening[kind].length(), 1, kind));
            }
        }
        for (int i = last - 1; i >= 0 && !raw[around]; i--) {
            if (stands(closing[open.get(i).kind], place)) {
                choices.add(new Choice(closing[open.get(i).kind].length(), 2, i));
            }
        }
        Choice best = null;
        for (Choice choice : choices) {
            best = choice.isBetterThan(best) ? choice : best;
        }
        return best;
    }

    private void take(Choice choice, int place, List<Open> all, List<Open> open) {
        if (choice.group == 1) {
            Open island = new Open();
            island.kind = choice.which;
            island.start = place;
            all.add(island);
            open.add(island);
        } else if (choice.group == 2 && !lenient) {
            left++;
        } else {
            while (open.size() - 1 > choice.which) {
                Open given = open.remove(open.size() - 1);
                given.end = place;
                given.state = 1;
            }
            Open closed = open.remove(open.size() - 1);
            closed.end = place + choice.length;
            closed.state = 0;
        }
    }

    // ---- best

    List<String> markWords() {
        List<String> words = new ArrayList<>();
        for (int place : markPlaces()) {
            words.add(longestWordAt(place));
        }
        return words;
    }

    List<Integer> markPlaces() {
        List<Integer> places = new ArrayList<>();
        int place = 0;
        while (place < text.length()) {
            if (text.charAt(place) == escape) {
                place += 2;
            } else if (longestWordAt(place) != null) {
                places.add(place);
                place += longestWordAt(place).length();
            } else {
                place++;
            }
        }
        return places;
    }

    private String longestWordAt(int place) {
        String longest = null;
        for (int kind = 0; kind < 6; kind++) {
            for (String word : Arrays.asList(opening[kind], closing[kind])) {
                if (complete(kind) && stands(word, place)
                        && (longest == null || word.length() > longest.length())) {
                    longest = word;
                }
            }
        }
        return longest;
    }

    /** Tries every reading; the marks before the next one are settled, the pairs around it open. */
    void best() {
        List<String> words = markWords();
        List<Integer> places = markPlaces();
        bestPairs = null;
        bestLeft = Integer.MAX_VALUE;
        tryFrom(0, words, new ArrayList<>(), new ArrayList<>(), 0);
        left = bestLeft;
        islands = new ArrayList<>();
        for (Pair pair : bestPairs) {
            islands.add(new Island(pair.kind, places.get(pair.from),
                    places.get(pair.to) + words.get(pair.to).length(), 0));
        }
    }

    private List<Pair> bestPairs;
    private int bestLeft;

    // Readings are tried in the order in which equally good ones come before one another.
    private void tryFrom(int mark, List<String> words, List<Pair> pairs, List<Pair> open, int unused) {
        if (mark == words.size()) {
            if (unused < bestLeft) {
                bestLeft = unused;
                bestPairs = new ArrayList<>(pairs);
            }
            return;
        }
        Pair around = open.isEmpty() ? null : open.get(open.size() - 1);
        if (around != null && around.to == mark) {
            open.remove(open.size() - 1);
            tryFrom(mark + 1, words, pairs, open, unused);
            open.add(around);
            return;
        }
        if (around != null && raw[around.kind]) {
            tryFrom(mark + 1, words, pairs, open, unused);
            return;
        }
        int end = around == null ? words.size() : around.to;
        for (int kind = 0; kind < 6; kind++) {
            boolean opens = complete(kind) && words.get(mark).equals(opening[kind])
                    && allowed(kind, around == null ? -1 : around.kind);
            for (int to = mark + 1; opens && to < end; to++) {
                if (words.get(to).equals(closing[kind])) {
                    Pair pair = new Pair(kind, mark, to);
                    pairs.add(pair);
                    open.add(pair);
                    tryFrom(mark + 1, words, pairs, open, unused);
                    open.remove(open.size() - 1);
                    pairs.remove(pairs.size() - 1);
                }
            }
        }
        tryFrom(mark + 1, words, pairs, open, unused + 1);
    }

    // ---- best, of more marks than every reading of them could be tried

    private static final int NOT_FIRST = 1000;
    private static final int UNUSED = 2000;

    /**
     * A reading of some marks in a row: how many are unused, and what each one does, the smaller number
     * before the greater one. A mark that closes, or is in a raw pair, is never the first one in which
     * two readings are different.
     */
    private record Stretch(int unused, int[] deeds) {
        boolean isBetterThan(Stretch other) {
            return unused != other.unused ? unused < other.unused : Arrays.compare(deeds, other.deeds) < 0;
        }
    }

    private Stretch[][][] known;

    /** Compares whole readings of a stretch with one another, where the class counts and then chooses. */
    void bestOfMany() {
        List<String> words = markWords();
        List<Integer> places = markPlaces();
        known = new Stretch[7][words.size() + 1][words.size() + 1];
        Stretch best = bestStretch(0, words.size(), -1, words);
        left = best.unused;
        islands = new ArrayList<>();
        for (int mark = 0; mark < words.size(); mark++) {
            if (best.deeds[mark] < NOT_FIRST) {
                int to = best.deeds[mark] % 64;
                islands.add(new Island(best.deeds[mark] / 64, places.get(mark),
                        places.get(to) + words.get(to).length(), 0));
            }
        }
    }

    private Stretch bestStretch(int from, int to, int around, List<String> words) {
        if (from == to) {
            return new Stretch(0, new int[0]);
        }
        if (known[around + 1][from][to] != null) {
            return known[around + 1][from][to];
        }
        Stretch behind = bestStretch(from + 1, to, around, words);
        Stretch best = new Stretch(1 + behind.unused, joined(UNUSED, new int[0], behind.deeds));
        for (int kind = 0; kind < 6; kind++) {
            boolean opens = complete(kind) && words.get(from).equals(opening[kind]) && allowed(kind, around);
            for (int partner = from + 1; opens && partner < to; partner++) {
                if (words.get(partner).equals(closing[kind])) {
                    Stretch paired = pairedStretch(from, partner, to, kind, around, words);
                    best = paired.isBetterThan(best) ? paired : best;
                }
            }
        }
        known[around + 1][from][to] = best;
        return best;
    }

    private Stretch pairedStretch(int from, int partner, int to, int kind, int around, List<String> words) {
        int[] rawDeeds = new int[partner - from - 1];
        Arrays.fill(rawDeeds, NOT_FIRST);
        Stretch inside = raw[kind] ? new Stretch(0, rawDeeds) : bestStretch(from + 1, partner, kind, words);
        Stretch behind = bestStretch(partner + 1, to, around, words);
        return new Stretch(inside.unused + behind.unused, joined(64 * kind + partner, inside.deeds,
                joined(NOT_FIRST, new int[0], behind.deeds)));
    }

    private static int[] joined(int first, int[] second, int[] third) {
        int[] all = new int[1 + second.length + third.length];
        all[0] = first;
        System.arraycopy(second, 0, all, 1, second.length);
        System.arraycopy(third, 0, all, 1 + second.length, third.length);
        return all;
    }

    // ---- what a reading tells

    int at(int place) {
        int found = -1;
        for (int i = 0; i < islands.size(); i++) {
            Island island = islands.get(i);
            if (island.start <= place && place < island.end
                    && (found < 0 || islands.get(found).start < island.start)) {
                found = i;
            }
        }
        return found;
    }

    /** The innermost island around another one: of those that hold it, the one that starts last. */
    int parent(int number) {
        Island island = islands.get(number);
        int found = -1;
        for (int i = 0; i < islands.size(); i++) {
            Island other = islands.get(i);
            if (i != number && other.start < island.start && other.end >= island.end) {
                found = found < 0 || islands.get(found).start < other.start ? i : found;
            }
        }
        return found;
    }

    int depth(int number) {
        return parent(number) < 0 ? 0 : depth(parent(number)) + 1;
    }

    int own(int number) {
        int bytes = 0;
        for (int place = 0; place < text.length(); place++) {
            bytes += at(place) == number ? 1 : 0;
        }
        return bytes;
    }

    int water() {
        return own(-1);
    }

    double share() {
        return text.isEmpty() ? 0.0 : (double) (text.length() - water()) / text.length();
    }

    long digest() {
        List<Integer> numbers = new ArrayList<>();
        numbers.add(text.length());
        text.chars().forEach(numbers::add);
        numbers.add(escape);
        numbers.add(lenient ? 1 : 0);
        for (int kind = 0; kind < 6; kind++) {
            numbers.addAll(List.of(complete(kind) ? 1 : 0, raw[kind] ? 1 : 0, outer[kind] ? 1 : 0,
                    inner[kind]));
        }
        if (islands != null) {
            numbers.add(islands.size());
            for (Island island : islands) {
                numbers.addAll(List.of(island.kind, island.start, island.end, island.state));
            }
            numbers.add(left);
        }
        long d = 109;
        for (int number : numbers) {
            d = d * 31 + number;
        }
        return d;
    }
}

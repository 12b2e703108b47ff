import java.util.ArrayDeque;
import java.util.ArrayList;
import java.util.Arrays;
import java.util.Comparator;
import java.util.Deque;
import java.util.HashMap;
import java.util.List;
import java.util.Map;
import java.util.Set;
import java.util.regex.Matcher;
import java.util.regex.Pattern;

/**
 * The document's words once more, in the slowest and plainest form and by other ways than the
 * class: ranks by sorting, faults by a pattern, states as copies.
 */
final class Model {
    private static final int NONE = -1000;
    private static final Set<String> WORDS =
        Set.of("add", "put", "del", "set", "swap", "bound", "mend");
    private static final String N = " +[0-9]{1,9}";
    private static final String V = " +-?[0-9]{1,9}";
    private static final Pattern COMMAND = Pattern.compile(" *(?:add" + V + "|put" + N + V + "|del"
        + N + "|set" + N + V + "|swap" + N + "|bound" + N + "|mend) *;");
    private static final Pattern TEXT = Pattern.compile("(?:" + COMMAND + ")* *");

    record Item(long value, int number) {
    }

    private static final class State {
        List<Item> items = new ArrayList<>();
        int bound = 2;
        boolean falling;
        boolean self;
        int steps;
        int looks;
        int came;

        State copy() {
            State c = new State();
            c.items = new ArrayList<>(items);
            c.bound = bound;
            c.falling = falling;
            c.self = self;
            c.steps = steps;
            c.looks = looks;
            c.came = came;
            return c;
        }

        Comparator<Item> order() {
            Comparator<Item> rising = Comparator.comparingLong(Item::value);
            return falling ? rising.reversed() : rising;
        }

        boolean ahead(int p, int q) {
            return order().compare(items.get(p), items.get(q)) < 0;
        }

        // The sort is stable: of equal values the one at the lower place comes first.
        List<Item> sorted() {
            List<Item> sorted = new ArrayList<>(items);
            sorted.sort(order());
            return sorted;
        }

        int[] distances() {
            List<Item> sorted = sorted();
            int[] distances = new int[items.size()];
            for (int p = 0; p < distances.length; p++) {
                for (int rank = 0; rank < distances.length; rank++) {
                    if (sorted.get(rank).number() == items.get(p).number()) {
                        distances[p] = p - rank;
                    }
                }
            }
            return distances;
        }

        List<Integer> broken() {
            int[] distances = distances();
            List<Integer> broken = new ArrayList<>();
            for (int p = 0; p < distances.length; p++) {
                if (distances[p] > bound || distances[p] < -bound) {
                    broken.add(p);
                }
            }
            return broken;
        }

        int inversions(int only) {
            int count = 0;
            for (int p = 0; p < items.size(); p++) {
                for (int q = p + 1; q < items.size(); q++) {
                    if (ahead(q, p) && (only < 0 || only == p || only == q)) {
                        count++;
                    }
                }
            }
            return count;
        }

        boolean fall(int p) {
            return p + 1 < items.size() && ahead(p + 1, p);
        }

        int step() {
            List<Integer> broken = broken();
            if (broken.isEmpty()) {
                return NONE;
            }
            int[] distances = distances();
            int most = broken.stream().mapToInt(p -> Math.abs(distances[p])).max().getAsInt();
            int at = broken.stream().filter(p -> Math.abs(distances[p]) == most).findFirst().get();
            int found = NONE;
            for (int q = 0; q + 1 < items.size(); q++) {
                if (!fall(q)) {
                    continue;
                }
                if (distances[at] > 0 && q + 1 <= at) {
                    found = q;
                }
                if (distances[at] <= 0 && q >= at && found == NONE) {
                    found = q;
                }
            }
            java.util.Collections.swap(items, found, found + 1);
            steps++;
            return found;
        }

        int mend() {
            int count = 0;
            while (!broken().isEmpty()) {
                step();
                count++;
            }
            return count;
        }

        int bySelf() {
            return self ? mend() : 0;
        }
    }

    private State now = new State();
    private final Deque<State> saved = new ArrayDeque<>();
    private String text = "";

    private void save() {
        saved.addLast(now.copy());
        if (saved.size() > 4) {
            saved.removeFirst();
        }
    }

    private boolean has(long place) {
        return place >= 0 && place < now.items.size();
    }

    private static String thrown(String name) {
        return "throws." + name;
    }

    /** Carries out a call by its name; answers what it returns, or what it throws. */
    String call(String name, long a, long b) {
        return switch (name) {
            case "append", "insert", "removeAt", "setValue", "swap", "setBound" ->
                changed(name, a, b, true);
            case "mend" -> changed(name, a, b, true);
            case "setOrder" -> {
                save();
                now.falling = a != 0;
                int inversions = now.inversions(-1);
                now.bySelf();
                yield "" + inversions;
            }
            case "setSelf" -> {
                save();
                now.self = a != 0;
                yield "" + now.bySelf();
            }
            case "step" -> {
                save();
                yield "" + now.step();
            }
            case "search" -> {
                save();
                int[] search = search(a);
                now.looks += search[1];
                yield "" + search[0];
            }
            case "at" -> has(a) ? "" + now.items.get((int) a).value()
                : thrown("IndexOutOfBoundsException");
            case "element" -> element((int) a, (int) b);
            case "ranked" -> has(a) ? "" + now.sorted().get((int) a).value()
                : thrown("IndexOutOfBoundsException");
            case "broken" -> "" + now.broken().stream().mapToLong(p -> 1L << p).sum();
            case "whole" -> whole((int) a);
            case "type", "clearCommands", "runCommands", "undo", "digest" -> text(name, (int) a);
            default -> whatIf(name, a, (int) b);
        };
    }

    private String changed(String name, long a, long b, boolean saving) {
        int size = now.items.size();
        String refusal = switch (name) {
            case "append" -> size == 32 ? "IllegalStateException" : "";
            case "insert" -> a < 0 || a > size ? "IllegalArgumentException"
                : size == 32 ? "IllegalStateException" : "";
            case "removeAt", "setValue" -> has(a) ? "" : "IndexOutOfBoundsException";
            case "swap" -> has(a) && has(a + 1) ? "" : "IndexOutOfBoundsException";
            case "setBound" -> a < 0 || a > 31 ? "IllegalArgumentException" : "";
            default -> "";
        };
        if (!refusal.isEmpty()) {
            return thrown(refusal);
        }
        if (saving) {
            save();
        }
        int place = (int) a;
        String answer;
        switch (name) {
            case "append" -> {
                now.items.add(new Item(a, now.came++));
                answer = "" + now.distances()[size];
            }
            case "insert" -> {
                answer = "" + now.came;
                now.items.add(place, new Item(b, now.came++));
            }
            case "removeAt" -> answer = "" + now.items.remove(place).number();
            case "setValue" -> {
                Item old = now.items.get(place);
                answer = "" + old.value();
                now.items.set(place, new Item(b, old.number()));
            }
            case "swap" -> {
                int before = now.inversions(-1);
                java.util.Collections.swap(now.items, place, place + 1);
                answer = "" + (now.inversions(-1) - before);
            }
            case "setBound" -> {
                now.bound = place;
                answer = "" + now.broken().size();
            }
            default -> {
                return "" + now.mend();
            }
        }
        now.bySelf();
        return answer;
    }

    private String element(int place, int what) {
        if (!has(place)) {
            return thrown("IndexOutOfBoundsException");
        }
        int distance = now.distances()[place];
        return switch (what) {
            case 0 -> "" + now.items.get(place).number();
            case 1 -> "" + (place - distance);
            case 2 -> "" + distance;
            case 3 -> now.broken().contains(place) ? "1" : "0";
            case 4 -> now.fall(place) ? "1" : "0";
            case 5 -> "" + now.inversions(place);
            default -> thrown("IllegalArgumentException");
        };
    }

    private String whole(int what) {
        int falls = 0;
        for (int p = 0; p < now.items.size(); p++) {
            falls += now.fall(p) ? 1 : 0;
        }
        return switch (what) {
            case 0 -> "" + now.items.size();
            case 1 -> "" + now.bound;
            case 2 -> now.falling ? "1" : "0";
            case 3 -> now.self ? "1" : "0";
            case 4 -> "" + now.broken().size();
            case 5 -> "" + now.inversions(-1);
            case 6 -> "" + falls;
            case 7 -> "" + now.steps;
            case 8 -> "" + now.looks;
            case 9 -> "" + now.came;
            case 10 -> "" + Arrays.stream(now.distances()).map(Math::abs).max().orElse(0);
            case 11 -> "" + text.length();
            default -> thrown("IllegalArgumentException");
        };
    }

    /** The place, the looks, low and high of a search. */
    private int[] search(long value) {
        int w = 2 * now.bound;
        int low = 0;
        int high = now.items.size();
        int looks = 0;
        while (high - low > 2 * w + 2) {
            int m = (low + high) / 2;
            long seen = now.items.get(m).value();
            looks++;
            if (seen == value) {
                return new int[] {m, looks, NONE, NONE};
            }
            if (now.falling ? seen > value : seen < value) {
                low = Math.max(low, m - w);
            } else {
                high = Math.min(high, m + w + 1);
            }
        }
        for (int p = low; p < high; p++) {
            looks++;
            if (now.items.get(p).value() == value) {
                return new int[] {p, looks, low, high};
            }
        }
        return new int[] {NONE, looks, low, high};
    }

    private String whatIf(String name, long value, int b) {
        return switch (name) {
            case "found" -> b < 0 || b > 3 ? thrown("IllegalArgumentException")
                : "" + search(value)[b];
            case "worstSearch" ->
                "" + now.items.stream().mapToInt(i -> search(i.value())[1]).max().orElse(0);
            case "stepsFor" -> {
                if (value < 0 || value > 31) {
                    yield thrown("IllegalArgumentException");
                }
                State other = now.copy();
                other.bound = (int) value;
                yield "" + other.mend();
            }
            case "bestPlace" -> {
                int best = NONE;
                int fewest = Integer.MAX_VALUE;
                for (int p = 0; p <= now.items.size() && now.items.size() < 32; p++) {
                    State other = now.copy();
                    other.items.add(p, new Item(value, -1));
                    if (other.broken().size() < fewest) {
                        fewest = other.broken().size();
                        best = p;
                    }
                }
                yield "" + best;
            }
            case "rankOf" -> {
                State other = now.copy();
                Item late = new Item(value, -1);
                other.items.add(late);
                yield "" + other.sorted().indexOf(late);
            }
            case "lostValues" ->
                "" + now.items.stream().filter(i -> search(i.value())[0] == NONE).count();
            default -> throw new IllegalArgumentException(name);
        };
    }

    private String text(String name, int a) {
        switch (name) {
            case "type":
                if (a < 0 || a > 127) {
                    return thrown("IllegalArgumentException");
                }
                if (text.length() == 150) {
                    return thrown("IllegalStateException");
                }
                text += (char) a;
                return "" + text.length();
            case "clearCommands":
                int length = text.length();
                text = "";
                return "" + length;
            case "runCommands":
                return run();
            case "undo":
                if (saved.isEmpty()) {
                    return thrown("IllegalStateException");
                }
                now = saved.removeLast();
                return "" + saved.size();
            default:
                return digest();
        }
    }

    private String run() {
        int fault = faultOf(text);
        if (fault != NONE) {
            return "" + (-10 - fault);
        }
        Map<String, String> calls = new HashMap<>(Map.of("add", "append", "put", "insert", "del",
            "removeAt", "set", "setValue", "swap", "swap", "bound", "setBound", "mend", "mend"));
        save();
        int done = 0;
        for (String command : text.split(";")) {
            String[] parts = command.trim().split(" +");
            if (parts[0].isEmpty()) {
                break;
            }
            long a = parts.length > 1 ? Long.parseLong(parts[1]) : 0;
            long b = parts.length > 2 ? Long.parseLong(parts[2]) : 0;
            if (changed(calls.get(parts[0]), a, b, false).startsWith("throws")) {
                break;
            }
            done++;
        }
        return "" + done;
    }

    /**
     * The byte at which no text without a fault can begin so any more; or, if that byte lies in or
     * right behind a word that is none of the commands', the word's first byte.
     */
    static int faultOf(String text) {
        if (TEXT.matcher(text).matches()) {
            return NONE;
        }
        int dead = 0;
        while (dead < text.length() && canGoOn(text.substring(0, dead + 1))) {
            dead++;
        }
        int start = dead;
        while (start > 0 && letter(text.charAt(start - 1))) {
            start--;
        }
        int end = dead;
        while (end < text.length() && letter(text.charAt(end))) {
            end++;
        }
        boolean wrongWord = end > start && !WORDS.contains(text.substring(start, end));
        return wrongWord ? start : dead;
    }

    private static boolean canGoOn(String part) {
        Matcher matcher = TEXT.matcher(part);
        return matcher.matches() || matcher.hitEnd();
    }

    private static boolean letter(char c) {
        return c >= 'a' && c <= 'z';
    }

    private String digest() {
        long h = 43814;
        h = 31 * h + saved.size();
        for (int what = 0; what <= 11; what++) {
            h = 31 * h + Long.parseLong(whole(what));
        }
        for (int p = 0; p < now.items.size(); p++) {
            h = 31 * h + now.items.get(p).value();
            for (int what = 0; what <= 5; what++) {
                h = 31 * h + Long.parseLong(element(p, what));
            }
        }
        for (String name : new String[] {"broken", "worstSearch", "lostValues"}) {
            h = 31 * h + Long.parseLong(call(name, 0, 0));
        }
        return "" + h;
    }
}

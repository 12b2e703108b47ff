/**
 * All promises: long runs of calls, always the same ones, on new objects, each answered by the
 * class and by the model.
 */
public final class ModelTest {
    private static final int RUNS = 800;
    private static final String[] CHANGES = {"append", "append", "append", "insert", "insert",
        "removeAt", "setValue", "swap", "setBound", "setOrder", "setSelf", "step", "step", "mend",
        "search", "undo"};
    private static final String[] QUESTIONS = {"at", "element", "ranked", "broken", "whole",
        "found", "worstSearch", "stepsFor", "bestPlace", "rankOf", "lostValues"};
    private static final String[] PIECES = {"add 5;", "add -3 ;", " add 12", "put 0 4;",
        "put 3 -2;", "del 0;", "del 9;", "set 1 7;", "set 0 -0;", "swap 0;", "swap 2 ;", "bound 1;",
        "bound 0;", "bound 32;", "mend;", " mend ;", " ", "add", "mend", ";", "-", "5", "x", "ad",
        " 000000000", "put ", "swap", "bound ", "123456789", "A", "\t"};

    private long seed;
    private final NearRanks real = new NearRanks();
    private final Model model = new Model();
    private final int spread;
    private final int tidiness;

    private ModelTest(long seed) {
        this.seed = seed;
        this.spread = 1 + below(40);
        this.tidiness = below(20);
    }

    public static void main(String[] args) {
        for (int run = 0; run < RUNS; run++) {
            new ModelTest(run).play("run " + run + ": ");
        }
        Kit.end();
    }

    private int below(int limit) {
        seed = seed * 6364136223846793005L + 1442695040888963407L;
        return (int) ((seed >>> 33) % limit);
    }

    private long value() {
        int kind = below(40);
        if (kind < 4) {
            return new long[] {Long.MIN_VALUE, Long.MAX_VALUE, Long.MIN_VALUE + 1, -1}[kind];
        }
        return below(spread) - spread / 4;
    }

    private int index() {
        int kind = below(60);
        if (kind < 5) {
            return new int[] {-1, 32, 33, Integer.MIN_VALUE, Integer.MAX_VALUE}[kind];
        }
        return below(real.whole(0) + 2);
    }

    // Long rows, nearly sorted, are those in which a search narrows its window.
    private void fill(String run) {
        int count = below(2) * below(34);
        for (int i = 0; i < count; i++) {
            compare(run, "append", below(4) * i / 3 + below(5), 0);
        }
    }

    private void play(String run) {
        fill(run);
        for (int call = 0; call < 60; call++) {
            int kind = below(10);
            if (kind < 6) {
                change(run);
            } else if (kind < 9) {
                question(run);
            } else {
                textual(run);
            }
            compare(run, "digest", 0, 0);
        }
    }

    private void change(String run) {
        String name = CHANGES[below(CHANGES.length)];
        switch (name) {
            case "append", "search" -> compare(run, name, value(), 0);
            case "setOrder" -> compare(run, name, below(2), 0);
            case "setSelf" -> compare(run, name, below(20) < tidiness ? 1 : 0, 0);
            case "setBound" -> compare(run, name, below(4) > 0 ? below(4) : below(35) - 1, 0);
            default -> compare(run, name, index(), value());
        }
    }

    private void question(String run) {
        String name = QUESTIONS[below(QUESTIONS.length)];
        switch (name) {
            case "whole" -> compare(run, name, below(14) - 1, 0);
            case "element" -> compare(run, name, index(), below(8) - 1);
            case "found" -> compare(run, name, value(), below(6) - 1);
            case "stepsFor" -> compare(run, name, below(2) > 0 ? below(4) : below(35) - 1, 0);
            case "bestPlace", "rankOf" -> compare(run, name, value(), 0);
            default -> compare(run, name, index(), 0);
        }
    }

    private void textual(String run) {
        if (below(4) > 0) {
            compare(run, "clearCommands", 0, 0);
        }
        int pieces = below(9);
        for (int i = 0; i < pieces; i++) {
            // Most of the texts are of the pieces that are whole commands, so that they run.
            String piece = PIECES[below(below(3) > 0 ? 17 : PIECES.length)];
            for (int j = 0; j < piece.length(); j++) {
                compare(run, "type", piece.charAt(j), 0);
            }
        }
        compare(run, "type", below(10) == 0 ? below(131) - 1 : 32, 0);
        compare(run, "runCommands", 0, 0);
    }

    private void compare(String run, String name, long a, long b) {
        String got;
        try {
            got = Long.toString(call(name, a, b));
        } catch (RuntimeException e) {
            got = "throws." + e.getClass().getSimpleName();
        }
        Kit.due(run + name + "(" + a + ", " + b + ")", got, model.call(name, a, b));
    }

    private long call(String name, long a, long b) {
        return switch (name) {
            case "append" -> real.append(a);
            case "insert" -> real.insert((int) a, b);
            case "removeAt" -> real.removeAt((int) a);
            case "setValue" -> real.setValue((int) a, b);
            case "swap" -> real.swap((int) a);
            case "setBound" -> real.setBound((int) a);
            case "setOrder" -> real.setOrder(a != 0);
            case "setSelf" -> real.setSelf(a != 0);
            case "step" -> real.step();
            case "mend" -> real.mend();
            case "search" -> real.search(a);
            case "at" -> real.at((int) a);
            case "element" -> real.element((int) a, (int) b);
            case "ranked" -> real.ranked((int) a);
            case "broken" -> real.broken();
            case "whole" -> real.whole((int) a);
            case "found" -> real.found(a, (int) b);
            case "worstSearch" -> real.worstSearch();
            case "stepsFor" -> real.stepsFor((int) a);
            case "bestPlace" -> real.bestPlace(a);
            case "rankOf" -> real.rankOf(a);
            case "lostValues" -> real.lostValues();
            case "type" -> real.type((int) a);
            case "clearCommands" -> real.clearCommands();
            case "runCommands" -> real.runCommands();
            case "undo" -> real.undo();
            case "digest" -> real.digest();
            default -> throw new IllegalArgumentException(name);
        };
    }
}

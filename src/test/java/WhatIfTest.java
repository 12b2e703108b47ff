/** Promises 18 to 23: what if, which changes nothing. */
public final class WhatIfTest {
    private static final Class<?> ARGUMENT = IllegalArgumentException.class;
    private static final int NONE = NearRanks.NONE;

    private WhatIfTest() {
    }

    public static void main(String[] args) {
        promise18Found();
        promise18Windows();
        promise19WorstSearch();
        promise20StepsFor();
        promise21BestPlace();
        promise22RankOf();
        promise23LostValues();
        Kit.end();
    }

    private static void found(NearRanks x, long value, int place, int looks, int low, int high) {
        String call = "found(" + value + ", ";
        Kit.due(call + "0)", x.found(value, 0), place);
        Kit.due(call + "1)", x.found(value, 1), looks);
        Kit.due(call + "2)", x.found(value, 2), low);
        Kit.due(call + "3)", x.found(value, 3), high);
    }

    private static void promise18Found() {
        NearRanks x = Kit.countedTo(10);
        x.setBound(0);
        found(x, 5, 5, 1, NONE, NONE);
        found(x, 7, 7, 2, NONE, NONE);
        found(x, 4, 4, 3, NONE, NONE);
        found(x, 0, 0, 5, 0, 2);
        found(x, 9, 9, 5, 8, 10);
        found(x, 10, NONE, 5, 8, 10);
        found(x, -1, NONE, 6, 0, 2);
        Kit.changesNothing("found", x, () -> x.found(3, 1));
        Kit.refused("found(0, -1)", x, ARGUMENT, () -> x.found(0, -1));
        Kit.refused("found(0, 4)", x, ARGUMENT, () -> x.found(0, 4));
        NearRanks empty = new NearRanks();
        found(empty, 0, NONE, 0, 0, 0);
        Kit.refused("found(0, 4), empty", empty, ARGUMENT, () -> empty.found(0, 4));
    }

    private static void promise18Windows() {
        // W is 2: a window of 6 is looked at one by one, one of 7 is halved first.
        NearRanks six = Kit.countedTo(6);
        six.setBound(1);
        found(six, 5, 5, 6, 0, 6);
        NearRanks seven = Kit.countedTo(7);
        seven.setBound(1);
        found(seven, 3, 3, 1, NONE, NONE);
        found(seven, 6, 6, 7, 1, 7);
        found(seven, 0, 0, 2, 0, 6);
        // What is looked at twice counts twice; of equal values the middle one is met first.
        NearRanks same = Kit.rowOf(4, 4, 4, 4, 4, 4, 4);
        same.setBound(1);
        found(same, 4, 3, 1, NONE, NONE);
        found(same, 5, NONE, 7, 1, 7);
        NearRanks falling = Kit.rowOf(6, 5, 4, 3, 2, 1, 0);
        falling.setBound(1);
        falling.setOrder(true);
        found(falling, 6, 0, 2, 0, 6);
        found(falling, 0, 6, 7, 1, 7);
        NearRanks wide = Kit.countedTo(32);
        wide.setBound(31);
        found(wide, 31, 31, 32, 0, 32);
    }

    private static void promise19WorstSearch() {
        NearRanks x = Kit.countedTo(10);
        x.setBound(0);
        Kit.due("worstSearch()", x.worstSearch(), 5);
        x.setBound(31);
        Kit.due("worstSearch() one by one", x.worstSearch(), 10);
        Kit.changesNothing("worstSearch", x, x::worstSearch);
        Kit.due("worstSearch(), empty", new NearRanks().worstSearch(), 0);
        Kit.due("worstSearch(), one element", Kit.rowOf(3).worstSearch(), 1);
        // The 9 in front is not found, with three looks and then two.
        NearRanks lost = Kit.rowOf(9, 0, 1);
        lost.setBound(0);
        Kit.due("found(9)", lost.found(9, 0), NONE);
        Kit.due("worstSearch() of one that is not found", lost.worstSearch(), 3);
    }

    private static void promise20StepsFor() {
        NearRanks x = Kit.rowOf(5, 1, 9, 3, 3, 7, 0);
        Kit.due("stepsFor(0)", x.stepsFor(0), 12);
        Kit.due("stepsFor(2)", x.stepsFor(2), 7);
        Kit.due("stepsFor(6)", x.stepsFor(6), 0);
        Kit.due("stepsFor(5)", x.stepsFor(5), 1);
        Kit.due("stepsFor(31)", x.stepsFor(31), 0);
        Kit.changesNothing("stepsFor", x, () -> x.stepsFor(0));
        Kit.refused("stepsFor(-1)", x, ARGUMENT, () -> x.stepsFor(-1));
        Kit.refused("stepsFor(32)", x, ARGUMENT, () -> x.stepsFor(32));
        Kit.due("stepsFor(0), empty", new NearRanks().stepsFor(0), 0);
    }

    private static void promise21BestPlace() {
        NearRanks x = Kit.rowOf(1, 2, 3);
        x.setBound(0);
        Kit.due("bestPlace(0)", x.bestPlace(0), 0);
        Kit.due("bestPlace(2)", x.bestPlace(2), 1);
        Kit.due("bestPlace(3)", x.bestPlace(3), 2);
        Kit.due("bestPlace(9)", x.bestPlace(9), 3);
        x.setBound(1);
        Kit.due("bestPlace(9), the bound 1", x.bestPlace(9), 2);
        x.setBound(31);
        Kit.due("bestPlace(9), the bound 31", x.bestPlace(9), 0);
        x.setBound(0);
        x.setSelf(true);
        Kit.due("bestPlace(9), ahead of any mending", x.bestPlace(9), 3);
        x.setOrder(true);
        Kit.due("bestPlace(9), falling", x.bestPlace(9), 0);
        Kit.changesNothing("bestPlace", x, () -> x.bestPlace(2));
        Kit.due("bestPlace(0), empty", new NearRanks().bestPlace(0), 0);
        NearRanks full = Kit.countedTo(31);
        full.setBound(0);
        Kit.due("bestPlace as the 32nd", full.bestPlace(40), 31);
        full.append(31);
        Kit.due("bestPlace, full", full.bestPlace(0), NONE);
    }

    private static void promise22RankOf() {
        NearRanks x = Kit.rowOf(5, 1, 3, 3);
        Kit.due("rankOf(0)", x.rankOf(0), 0);
        Kit.due("rankOf(3)", x.rankOf(3), 3);
        Kit.due("rankOf(4)", x.rankOf(4), 3);
        Kit.due("rankOf(5)", x.rankOf(5), 4);
        x.setOrder(true);
        Kit.due("rankOf(3), falling", x.rankOf(3), 3);
        Kit.due("rankOf(4), falling", x.rankOf(4), 1);
        Kit.due("rankOf(0), falling", x.rankOf(0), 4);
        Kit.changesNothing("rankOf", x, () -> x.rankOf(3));
        Kit.due("rankOf(0), empty", new NearRanks().rankOf(0), 0);
        Kit.due("rankOf(99), full", Kit.countedTo(32).rankOf(99), 32);
    }

    private static void promise23LostValues() {
        NearRanks x = Kit.rowOf(9, 0, 1, 2, 3, 4, 5, 6, 7, 8);
        x.setBound(0);
        Kit.due("lostValues()", x.lostValues(), 1);
        Kit.changesNothing("lostValues", x, x::lostValues);
        x.mend();
        Kit.due("lostValues() in bound", x.lostValues(), 0);
        Kit.due("lostValues(), empty", new NearRanks().lostValues(), 0);
        // Each element by itself: both nines at the front are lost.
        NearRanks two = Kit.rowOf(9, 9, 1, 2, 3, 4);
        two.setBound(0);
        Kit.due("lostValues() of equal ones", two.lostValues(), 2);
    }
}

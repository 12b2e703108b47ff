/**
 * Promises 13 to 23: for each of their sentences that names a boundary or a refused call, that
 * boundary, what lies right beside it and what lies farthest from it.
 */
public final class EdgesOfValuesTest {
    private static final Class<?> ARGUMENT = IllegalArgumentException.class;
    private static final Class<?> INDEX = IndexOutOfBoundsException.class;
    private static final int NONE = NearRanks.NONE;
    private static final int LEAST = Integer.MIN_VALUE;
    private static final int GREATEST = Integer.MAX_VALUE;

    private EdgesOfValuesTest() {
    }

    public static void main(String[] args) {
        promise13NoSuchPlace();
        promise14NoSuchPlace();
        promise14WhatRange();
        promise14FallWithoutNextOne();
        promise14BrokenAtTheBound();
        promise14GreatestValues();
        promise15NoSuchRank();
        promise15EqualValues();
        promise16AllPlaces();
        promise17WhatRange();
        promise17GreatestDistance();
        promise17InAll();
        promise18WhatRange();
        promise18AnyValue();
        promise18FoundBefore();
        promise19EmptyRow();
        promise19FoundOrNot();
        promise20BoundRange();
        promise20OtherBounds();
        promise21Full();
        promise21LowestPlace();
        promise21ItselfCounted();
        promise21AnyValue();
        promise22Ends();
        promise22AnyValue();
        promise23EachByItself();
        whatIfChangesNothing();
        Kit.end();
    }

    private static void promise13NoSuchPlace() {
        Kit.about("13: throws IndexOutOfBoundsException if there is no such place");
        NearRanks empty = new NearRanks();
        Kit.refused("at(0), empty", empty, INDEX, () -> empty.at(0));
        NearRanks x = Kit.rowOf(Long.MIN_VALUE);
        Kit.due("at(0)", x.at(0), Long.MIN_VALUE);
        Kit.refused("at(1)", x, INDEX, () -> x.at(1));
        Kit.refused("at(-1)", x, INDEX, () -> x.at(-1));
        Kit.refused("at(least)", x, INDEX, () -> x.at(LEAST));
        Kit.refused("at(greatest)", x, INDEX, () -> x.at(GREATEST));
        x.undo();
        Kit.refused("at(0) after undo()", x, INDEX, () -> x.at(0));
        NearRanks full = Kit.fullRow();
        Kit.due("at(31), full", full.at(31), 31);
        Kit.refused("at(32), full", full, INDEX, () -> full.at(32));
        full.removeAt(0);
        Kit.refused("at(31) after removeAt", full, INDEX, () -> full.at(31));
    }

    private static void promise14NoSuchPlace() {
        Kit.about("14: throws IndexOutOfBoundsException if there is no such place");
        NearRanks empty = new NearRanks();
        NearRanks full = Kit.fullRow();
        for (int what = -1; what <= 6; what++) {
            int asked = what;
            Kit.refused("element(0), empty", empty, INDEX, () -> empty.element(0, asked));
            Kit.refused("element(32), full", full, INDEX, () -> full.element(32, asked));
            Kit.refused("element(-1), full", full, INDEX, () -> full.element(-1, asked));
            Kit.refused("element(least)", full, INDEX, () -> full.element(LEAST, asked));
            Kit.refused("element(greatest)", full, INDEX, () -> full.element(GREATEST, asked));
        }
    }

    private static void promise14WhatRange() {
        Kit.about("14: throws IllegalArgumentException if what is out of range");
        NearRanks x = Kit.rowOf(8);
        Kit.due("element(0, 0)", x.element(0, 0), 0);
        Kit.due("element(0, 5)", x.element(0, 5), 0);
        Kit.refused("element(0, -1)", x, ARGUMENT, () -> x.element(0, -1));
        Kit.refused("element(0, 6)", x, ARGUMENT, () -> x.element(0, 6));
        Kit.refused("element(0, least)", x, ARGUMENT, () -> x.element(0, LEAST));
        Kit.refused("element(0, greatest)", x, ARGUMENT, () -> x.element(0, GREATEST));
        NearRanks full = Kit.fullRow();
        Kit.refused("element(31, 6)", full, ARGUMENT, () -> full.element(31, 6));
        Kit.refused("element(31, -1)", full, ARGUMENT, () -> full.element(31, -1));
    }

    private static void promise14FallWithoutNextOne() {
        Kit.about("14: 4: 1 if it and the next one are a fall, 0 if not (also without a next one)");
        Kit.due("the only one", Kit.rowOf(5).element(0, 4), 0);
        NearRanks x = Kit.rowOf(3, 2, 1);
        Kit.due("three", Kit.elementsOf(x, 4), "1 1 0");
        // A value that went may still lie behind the last one; it makes no fall.
        x.removeAt(2);
        Kit.due("behind one that went", Kit.elementsOf(x, 4), "1 0");
        x.removeAt(1);
        Kit.due("the one that is left", Kit.elementsOf(x, 4), "0");
        NearRanks back = Kit.rowOf(3, 2, 1);
        back.undo();
        Kit.due("behind one that undo() took", Kit.elementsOf(back, 4), "1 0");
        NearRanks full = Kit.countedTo(32);
        full.setOrder(true);
        Kit.due("the one before the last, full", full.element(30, 4), 1);
        Kit.due("the last one, full", full.element(31, 4), 0);
        Kit.due("equal ones", Kit.rowOf(5, 5).element(0, 4), 0);
    }

    private static void promise14BrokenAtTheBound() {
        Kit.about("14: 3: 1 if it is broken or 0 if not");
        NearRanks x = Kit.countedTo(31);
        x.append(-1);
        x.setBound(31);
        Kit.due("31 with the bound 31", x.element(31, 3), 0);
        x.setBound(30);
        Kit.due("31 with the bound 30", x.element(31, 3), 1);
        x.setBound(1);
        Kit.due("-1 with the bound 1", x.element(0, 3), 0);
        x.setBound(0);
        Kit.due("-1 with the bound 0", x.element(0, 3), 1);
        x.mend();
        Kit.due("0 with the bound 0", x.element(0, 3), 0);
    }

    private static void promise14GreatestValues() {
        Kit.about("14: 1 rank, 2 distance, 5 inversions of which it is one of the two");
        NearRanks x = Kit.countedTo(32);
        x.setOrder(true);
        Kit.due("the rank of the first", x.element(0, 1), 31);
        Kit.due("its distance", x.element(0, 2), -31);
        Kit.due("its inversions", x.element(0, 5), 31);
        Kit.due("the rank of the last", x.element(31, 1), 0);
        Kit.due("its distance", x.element(31, 2), 31);
        Kit.due("its inversions", x.element(31, 5), 31);
        NearRanks equal = Kit.rowOf(2, 1, 2, 1);
        Kit.due("inversions with equal ones", Kit.elementsOf(equal, 5), "2 1 1 2");
        Kit.due("the only one's", Kit.rowOf(1).element(0, 5), 0);
    }

    private static void promise15NoSuchRank() {
        Kit.about("15: throws IndexOutOfBoundsException if there is no element with this rank");
        NearRanks empty = new NearRanks();
        Kit.refused("ranked(0), empty", empty, INDEX, () -> empty.ranked(0));
        NearRanks x = Kit.rowOf(4);
        Kit.due("ranked(0)", x.ranked(0), 4);
        Kit.refused("ranked(1)", x, INDEX, () -> x.ranked(1));
        Kit.refused("ranked(-1)", x, INDEX, () -> x.ranked(-1));
        Kit.refused("ranked(least)", x, INDEX, () -> x.ranked(LEAST));
        Kit.refused("ranked(greatest)", x, INDEX, () -> x.ranked(GREATEST));
        NearRanks full = Kit.fullRow();
        full.setOrder(true);
        Kit.due("ranked(0), full", full.ranked(0), 31);
        Kit.due("ranked(31), full", full.ranked(31), 0);
        Kit.refused("ranked(32), full", full, INDEX, () -> full.ranked(32));
        full.removeAt(0);
        Kit.refused("ranked(31) after removeAt", full, INDEX, () -> full.ranked(31));
    }

    private static void promise15EqualValues() {
        Kit.about("15: returns the value with a rank, of equal ones too");
        NearRanks x = Kit.rowOf(7, 3, 7, 3, 7);
        long[] ranked = {3, 3, 7, 7, 7};
        for (int rank = 0; rank < ranked.length; rank++) {
            Kit.due("ranked(" + rank + ")", x.ranked(rank), ranked[rank]);
        }
        NearRanks ends = Kit.rowOf(Long.MAX_VALUE, Long.MIN_VALUE);
        Kit.due("ranked(0) of the ends", ends.ranked(0), Long.MIN_VALUE);
        Kit.due("ranked(1) of the ends", ends.ranked(1), Long.MAX_VALUE);
    }

    private static void promise16AllPlaces() {
        Kit.about("16: returns the set, bit p for the place p");
        Kit.due("of an empty row", new NearRanks().broken(), 0);
        NearRanks one = Kit.rowOf(1);
        one.setBound(0);
        Kit.due("of one element", one.broken(), 0);
        NearRanks x = Kit.countedTo(32);
        x.setOrder(true);
        x.setBound(30);
        Kit.due("bits 0 and 31, not below 0", x.broken(), 0x80000001L);
        x.setBound(0);
        Kit.due("all bits", x.broken(), 0xFFFFFFFFL);
        x.removeAt(31);
        x.removeAt(30);
        Kit.due("no bits behind the row", x.broken() >>> 30, 0);
    }

    private static void promise17WhatRange() {
        Kit.about("17: throws IllegalArgumentException if what is out of range");
        NearRanks x = Kit.rowOf(1, 0);
        Kit.typeText(x, "add");
        Kit.due("whole(0)", x.whole(0), 2);
        Kit.due("whole(11)", x.whole(11), 3);
        Kit.refused("whole(-1)", x, ARGUMENT, () -> x.whole(-1));
        Kit.refused("whole(12)", x, ARGUMENT, () -> x.whole(12));
        Kit.refused("whole(least)", x, ARGUMENT, () -> x.whole(LEAST));
        Kit.refused("whole(greatest)", x, ARGUMENT, () -> x.whole(GREATEST));
    }

    private static void promise17GreatestDistance() {
        Kit.about("17: 10 greatest distance without its sign (0 for an empty row)");
        Kit.due("of an empty row", new NearRanks().whole(10), 0);
        Kit.due("of one element", Kit.rowOf(1).whole(10), 0);
        NearRanks emptied = Kit.rowOf(1, 0);
        emptied.removeAt(0);
        emptied.removeAt(0);
        Kit.due("of an emptied row", emptied.whole(10), 0);
        NearRanks late = Kit.countedTo(31);
        late.append(-1);
        Kit.due("of one 31 too late", late.whole(10), 31);
        NearRanks early = Kit.countedTo(31);
        early.insert(0, 99);
        Kit.due("of one 31 too early", early.whole(10), 31);
        early.setBound(0);
        Kit.due("whatever the bound", early.whole(10), 31);
    }

    private static void promise17InAll() {
        Kit.about("17: 7 steps of mending, by whatever, 8 looks, 9 elements that came, in all");
        NearRanks x = Kit.rowOf(3, 2, 1);
        x.setBound(0);
        x.step();
        Kit.due("steps by step()", x.whole(7), 1);
        x.mend();
        Kit.due("steps by mend()", x.whole(7), 3);
        x.setSelf(true);
        x.append(0);
        Kit.due("steps by itself", x.whole(7), 6);
        Kit.typeText(x, "add -1;mend;");
        x.runCommands();
        Kit.due("steps by itself in a run", x.whole(7), 10);
        x.setSelf(false);
        Kit.retype(x, "add -2;mend;");
        x.runCommands();
        Kit.due("steps by mend in a run", x.whole(7), 15);
        x.stepsFor(0);
        Kit.due("elements that came", x.whole(9), 6);
        x.removeAt(0);
        Kit.due("elements that came, also if they went", x.whole(9), 6);
        x.undo();
        x.undo();
        Kit.due("steps after undo() of the run", x.whole(7), 10);
        Kit.due("elements after undo() of the run", x.whole(9), 5);
        Kit.due("looks", x.whole(8), 0);
    }

    private static void promise18WhatRange() {
        Kit.about("18: throws IllegalArgumentException if what is out of range");
        NearRanks x = Kit.rowOf(6);
        Kit.due("found(6, 0)", x.found(6, 0), 0);
        Kit.due("found(6, 3)", x.found(6, 3), 1);
        Kit.refused("found(6, -1)", x, ARGUMENT, () -> x.found(6, -1));
        Kit.refused("found(6, 4)", x, ARGUMENT, () -> x.found(6, 4));
        Kit.refused("found(6, least)", x, ARGUMENT, () -> x.found(6, LEAST));
        Kit.refused("found(6, greatest)", x, ARGUMENT, () -> x.found(6, GREATEST));
        NearRanks empty = new NearRanks();
        Kit.refused("found(6, 4), empty", empty, ARGUMENT, () -> empty.found(6, 4));
    }

    private static void promise18AnyValue() {
        Kit.about("18: value: any value; NONE if it is not found");
        NearRanks x = Kit.rowOf(Long.MIN_VALUE, -1, 0, Long.MAX_VALUE);
        x.setBound(0);
        Kit.due("found(least, 0)", x.found(Long.MIN_VALUE, 0), 0);
        Kit.due("found(greatest, 0)", x.found(Long.MAX_VALUE, 0), 3);
        Kit.due("found(NONE, 0)", x.found(NONE, 0), NONE);
        Kit.due("found(least + 1, 0)", x.found(Long.MIN_VALUE + 1, 0), NONE);
        Kit.due("found(0, 0), empty", new NearRanks().found(0, 0), NONE);
        Kit.due("found(0, 1), empty", new NearRanks().found(0, 1), 0);
        Kit.due("found(0, 2), empty", new NearRanks().found(0, 2), 0);
        Kit.due("found(0, 3), empty", new NearRanks().found(0, 3), 0);
    }

    private static void promise18FoundBefore() {
        Kit.about("18: 2 low, 3 high then (2 and 3 NONE if it is found before)");
        NearRanks x = Kit.countedTo(32);
        x.setBound(0);
        Kit.due("found(16, 0)", x.found(16, 0), 16);
        Kit.due("found(16, 1)", x.found(16, 1), 1);
        Kit.due("found(16, 2)", x.found(16, 2), NONE);
        Kit.due("found(16, 3)", x.found(16, 3), NONE);
        // The last one that is not looked at one by one, and the one beside it.
        Kit.due("found(1, 1)", x.found(1, 1), 5);
        Kit.due("found(1, 2)", x.found(1, 2), NONE);
        Kit.due("found(1, 3)", x.found(1, 3), NONE);
        Kit.due("found(0, 1)", x.found(0, 1), 6);
        Kit.due("found(0, 2)", x.found(0, 2), 0);
        Kit.due("found(0, 3)", x.found(0, 3), 2);
        Kit.due("found(31, 2)", x.found(31, 2), 30);
        Kit.due("found(31, 3)", x.found(31, 3), 32);
        Kit.due("found(32, 2)", x.found(32, 2), 30);
        Kit.due("found(32, 3)", x.found(32, 3), 32);
        Kit.due("found(32, 0)", x.found(32, 0), NONE);
    }

    private static void promise19EmptyRow() {
        Kit.about("19: returns the number; 0 for an empty row");
        NearRanks empty = new NearRanks();
        Kit.due("of an empty row", empty.worstSearch(), 0);
        Kit.due("of one element", Kit.rowOf(4).worstSearch(), 1);
        NearRanks emptied = Kit.rowOf(4);
        emptied.removeAt(0);
        Kit.due("of an emptied row", emptied.worstSearch(), 0);
        NearRanks full = Kit.countedTo(32);
        full.setBound(31);
        Kit.due("of a full row", full.worstSearch(), 32);
        Kit.due("of a full row of equal ones", Kit.fullOf(4).worstSearch(), 1);
    }

    private static void promise19FoundOrNot() {
        Kit.about("19: of a search for any value that is in the row, found or not");
        NearRanks x = Kit.rowOf(9, 0, 1);
        x.setBound(0);
        Kit.due("with one that is not found", x.worstSearch(), 3);
        // 8, 7 and 1 are lost with more looks than any that is found.
        NearRanks turned = Kit.rowOf(8, 7, 5, 1);
        turned.setBound(0);
        Kit.due("found(8, 0)", turned.found(8, 0), NONE);
        Kit.due("found(1, 0)", turned.found(1, 0), NONE);
        Kit.due("found(8, 1)", turned.found(8, 1), 3);
        Kit.due("found(1, 1)", turned.found(1, 1), 4);
        Kit.due("found(5, 1)", turned.found(5, 1), 1);
        Kit.due("with three that are not found", turned.worstSearch(), 4);
    }

    private static void promise20BoundRange() {
        Kit.about("20: bound: 0 to 31; throws IllegalArgumentException if bound is out of range");
        NearRanks x = Kit.rowOf(3, 2, 1);
        Kit.due("stepsFor(0)", x.stepsFor(0), 3);
        Kit.due("stepsFor(31)", x.stepsFor(31), 0);
        Kit.refused("stepsFor(-1)", x, ARGUMENT, () -> x.stepsFor(-1));
        Kit.refused("stepsFor(32)", x, ARGUMENT, () -> x.stepsFor(32));
        Kit.refused("stepsFor(least)", x, ARGUMENT, () -> x.stepsFor(LEAST));
        Kit.refused("stepsFor(greatest)", x, ARGUMENT, () -> x.stepsFor(GREATEST));
        NearRanks empty = new NearRanks();
        Kit.due("stepsFor(0), empty", empty.stepsFor(0), 0);
        Kit.refused("stepsFor(32), empty", empty, ARGUMENT, () -> empty.stepsFor(32));
    }

    private static void promise20OtherBounds() {
        Kit.about("20: tells how many steps mending would take with another bound");
        NearRanks x = Kit.countedTo(31);
        x.append(-1);
        for (int bound = 0; bound <= 31; bound++) {
            Kit.due("stepsFor(" + bound + ")", x.stepsFor(bound), 31 - bound);
        }
        x.setBound(0);
        x.setSelf(true);
        Kit.due("stepsFor(0), in bound", x.stepsFor(0), 0);
        x.setBound(31);
        x.setOrder(true);
        Kit.due("stepsFor(0), all wrong, mended by itself", x.stepsFor(0), 496);
        Kit.due("stepsFor(30), all wrong", x.stepsFor(30), 2);
    }

    private static void promise21Full() {
        Kit.about("21: NONE if there are 32 elements");
        NearRanks x = Kit.fullRow();
        Kit.due("bestPlace, 32 elements", x.bestPlace(5), NONE);
        Kit.changesNothing("bestPlace, 32 elements", x, () -> x.bestPlace(5));
        x.removeAt(31);
        x.setBound(0);
        Kit.due("bestPlace at the end, 31 elements", x.bestPlace(99), 31);
        Kit.due("bestPlace in front, 31 elements", x.bestPlace(-1), 0);
        x.append(31);
        Kit.due("bestPlace, 32 elements again", x.bestPlace(99), NONE);
        Kit.due("bestPlace, empty", new NearRanks().bestPlace(5), 0);
    }

    private static void promise21LowestPlace() {
        Kit.about("21: the lowest place at which the row would have the fewest broken elements");
        NearRanks x = Kit.rowOf(1, 2, 3, 4);
        x.setBound(31);
        Kit.due("all places are as good", x.bestPlace(9), 0);
        x.setBound(2);
        Kit.due("the places 2, 3 and 4 are as good", x.bestPlace(9), 2);
        x.setBound(0);
        Kit.due("one place is best", x.bestPlace(9), 4);
        NearRanks same = Kit.fullOf(6);
        same.removeAt(0);
        same.setBound(0);
        Kit.due("an equal one in front", same.bestPlace(6), 0);
        NearRanks equal = Kit.rowOf(1, 5, 5, 9);
        equal.setBound(0);
        Kit.due("an equal one in the middle", equal.bestPlace(5), 1);
    }

    private static void promise21ItselfCounted() {
        Kit.about("21: the fewest broken elements, itself counted, ahead of any mending");
        NearRanks x = Kit.rowOf(1, 2, 3);
        x.setBound(1);
        // In front it would be the only broken one; at the place 2 there would be none.
        Kit.due("itself counted", x.bestPlace(9), 2);
        x.setBound(0);
        x.setSelf(true);
        Kit.due("ahead of any mending", x.bestPlace(9), 3);
    }

    private static void promise21AnyValue() {
        Kit.about("21: value: any value");
        NearRanks x = Kit.rowOf(-1, 0, 1);
        x.setBound(0);
        Kit.due("bestPlace(least)", x.bestPlace(Long.MIN_VALUE), 0);
        Kit.due("bestPlace(greatest)", x.bestPlace(Long.MAX_VALUE), 3);
        x.setOrder(true);
        x.mend();
        Kit.due("bestPlace(least), falling", x.bestPlace(Long.MIN_VALUE), 3);
        Kit.due("bestPlace(greatest), falling", x.bestPlace(Long.MAX_VALUE), 0);
    }

    private static void promise22Ends() {
        Kit.about("22: returns the rank that a value would have if it was appended");
        Kit.due("rankOf, empty", new NearRanks().rankOf(5), 0);
        NearRanks one = Kit.rowOf(5);
        Kit.due("rankOf(4)", one.rankOf(4), 0);
        Kit.due("rankOf(5), behind the equal one", one.rankOf(5), 1);
        Kit.due("rankOf(6)", one.rankOf(6), 1);
        NearRanks x = Kit.countedTo(31);
        Kit.due("rankOf(-1), 31 elements", x.rankOf(-1), 0);
        Kit.due("rankOf(30), 31 elements", x.rankOf(30), 31);
        x.append(31);
        Kit.due("rankOf(-1), full", x.rankOf(-1), 0);
        Kit.due("rankOf(31), full", x.rankOf(31), 32);
        Kit.due("rankOf of equal ones, full", Kit.fullOf(4).rankOf(4), 32);
    }

    private static void promise22AnyValue() {
        Kit.about("22: value: any value");
        NearRanks x = Kit.rowOf(Long.MIN_VALUE, Long.MAX_VALUE, 0);
        Kit.due("rankOf(least)", x.rankOf(Long.MIN_VALUE), 1);
        Kit.due("rankOf(greatest)", x.rankOf(Long.MAX_VALUE), 3);
        x.setOrder(true);
        Kit.due("rankOf(least), falling", x.rankOf(Long.MIN_VALUE), 3);
        Kit.due("rankOf(greatest), falling", x.rankOf(Long.MAX_VALUE), 1);
        Kit.due("append(least), falling", x.append(Long.MIN_VALUE), 0);
        Kit.due("its rank", x.element(3, 1), 3);
    }

    private static void promise23EachByItself() {
        Kit.about("23: counts the values, each element by itself, not found at any place");
        Kit.due("of an empty row", new NearRanks().lostValues(), 0);
        Kit.due("of one element", Kit.rowOf(1).lostValues(), 0);
        NearRanks two = Kit.rowOf(9, 9, 1, 2, 3, 4);
        two.setBound(0);
        Kit.due("two equal ones that are lost", two.lostValues(), 2);
        // The second 9 lies where the search passes: then the first one is not lost either.
        NearRanks met = Kit.rowOf(9, 0, 1, 2, 9);
        met.setBound(0);
        Kit.due("an equal one that is found", met.lostValues(), 0);
        NearRanks full = Kit.countedTo(32);
        full.setBound(0);
        Kit.due("of a full row", full.lostValues(), 0);
        full.setOrder(true);
        // All wrong: the one in the middle is met first, all others are sought on the wrong side.
        Kit.due("of a full row that is all wrong", full.lostValues(), 31);
        full.setBound(31);
        Kit.due("of one that is looked at whole", full.lostValues(), 0);
    }

    private static void whatIfChangesNothing() {
        Kit.about("what if, which changes nothing");
        NearRanks x = Kit.rowOf(5, 1, 9, 3, 3, 7, 0);
        String before = Kit.stateOf(x) + x.digest();
        x.found(9, 1);
        x.worstSearch();
        x.stepsFor(0);
        x.bestPlace(4);
        x.rankOf(4);
        x.lostValues();
        Kit.due("the state and the checksum", Kit.stateOf(x) + x.digest(), before);
        Kit.due("all states", Kit.historyOf(x), Kit.historyOf(Kit.rowOf(5, 1, 9, 3, 3, 7, 0)));
    }
}

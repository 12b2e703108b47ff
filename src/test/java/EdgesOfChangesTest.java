/**
 * Promises 1 to 12: for each of their sentences that names a boundary or a refused call, that
 * boundary, what lies right beside it and what lies farthest from it.
 */
public final class EdgesOfChangesTest {
    private static final Class<?> ARGUMENT = IllegalArgumentException.class;
    private static final Class<?> STATE = IllegalStateException.class;
    private static final Class<?> INDEX = IndexOutOfBoundsException.class;
    private static final int NONE = NearRanks.NONE;
    private static final int LEAST = Integer.MIN_VALUE;
    private static final int GREATEST = Integer.MAX_VALUE;

    private EdgesOfChangesTest() {
    }

    public static void main(String[] args) {
        promise1EmptyRow();
        promise1EmptyText();
        promise1EmptyStack();
        promise2AnyValue();
        promise2DistanceAheadOfMending();
        promise2Full();
        promise3PlaceRange();
        promise3AnyValue();
        promise3MovesBack();
        promise3Full();
        promise4NoSuchPlace();
        promise4MovesUp();
        promise5NoSuchPlace();
        promise5AnyValue();
        promise6NoNextOne();
        promise6WhateverTheValues();
        promise6MoreInversions();
        promise7BoundRange();
        promise7BrokenThen();
        promise8Inversions();
        promise9Steps();
        promise10InBound();
        promise10OneStep();
        promise11Steps();
        promise12AnyValue();
        promise12CountsTheLooks();
        Kit.end();
    }

    private static void promise1EmptyRow() {
        Kit.about("1: an empty row in rising order, with the bound 2, not mended by itself");
        NearRanks x = new NearRanks();
        Kit.due("elements", x.whole(0), 0);
        Kit.due("the bound", x.whole(1), 2);
        Kit.due("the falling order", x.whole(2), 0);
        Kit.due("mended by itself", x.whole(3), 0);
        for (int what = 4; what <= 11; what++) {
            Kit.due("whole(" + what + ")", x.whole(what), 0);
        }
        Kit.due("broken()", x.broken(), 0);
        Kit.due("the first number", x.insert(0, 3), 0);
        Kit.refused("at(1)", x, INDEX, () -> x.at(1));
    }

    private static void promise1EmptyText() {
        Kit.about("1: an empty command text");
        NearRanks x = new NearRanks();
        Kit.due("clearCommands()", x.clearCommands(), 0);
        Kit.due("runCommands()", x.runCommands(), 0);
        Kit.due("type(59)", x.type(59), 1);
    }

    private static void promise1EmptyStack() {
        Kit.about("1: an empty undo stack");
        NearRanks x = new NearRanks();
        Kit.refused("undo()", x, STATE, x::undo);
        Kit.due("digest()", x.digest(), -7741732808485424540L);
    }

    private static void promise2AnyValue() {
        Kit.about("2: value: any value");
        NearRanks x = new NearRanks();
        Kit.due("append(greatest)", x.append(Long.MAX_VALUE), 0);
        Kit.due("append(least)", x.append(Long.MIN_VALUE), 1);
        Kit.due("append(least) again", x.append(Long.MIN_VALUE), 1);
        Kit.due("append(greatest) again", x.append(Long.MAX_VALUE), 0);
        Kit.due("append(0)", x.append(0), 2);
        NearRanks falling = new NearRanks();
        falling.setOrder(true);
        Kit.due("append(least), falling", falling.append(Long.MIN_VALUE), 0);
        Kit.due("append(greatest), falling", falling.append(Long.MAX_VALUE), 1);
        Kit.due("append(NONE), falling", falling.append(NONE), 1);
    }

    private static void promise2DistanceAheadOfMending() {
        Kit.about("2: returns its distance ahead of any mending");
        NearRanks x = Kit.countedTo(31);
        x.setBound(0);
        x.setSelf(true);
        Kit.due("append(-1) as the 32nd", x.append(-1), 31);
        Kit.due("its place", x.at(0), -1);
        Kit.due("the steps", x.whole(7), 31);
        Kit.due("append to an empty row", new NearRanks().append(5), 0);
    }

    private static void promise2Full() {
        Kit.about("2: throws IllegalStateException if there are 32 elements");
        NearRanks x = Kit.countedTo(31);
        Kit.due("append to 31", x.append(31), 0);
        Kit.refused("append to 32", x, STATE, () -> x.append(32));
        NearRanks room = Kit.fullRow();
        Kit.refused("append to 32, room on the stack", room, STATE, () -> room.append(32));
        room.setSelf(true);
        Kit.refused("append to 32, mended by itself", room, STATE, () -> room.append(-1));
    }

    private static void promise3PlaceRange() {
        Kit.about("3: place: 0 to the number of elements; throws IllegalArgumentException");
        NearRanks x = new NearRanks();
        Kit.refused("insert(-1), empty", x, ARGUMENT, () -> x.insert(-1, 0));
        Kit.refused("insert(1), empty", x, ARGUMENT, () -> x.insert(1, 0));
        Kit.due("insert(0), empty", x.insert(0, 5), 0);
        Kit.refused("insert(2), one element", x, ARGUMENT, () -> x.insert(2, 0));
        Kit.due("insert(1), one element", x.insert(1, 6), 1);
        Kit.due("insert(0), two elements", x.insert(0, 4), 2);
        Kit.refused("insert(-1)", x, ARGUMENT, () -> x.insert(-1, 0));
        Kit.refused("insert(least)", x, ARGUMENT, () -> x.insert(LEAST, 0));
        Kit.refused("insert(greatest)", x, ARGUMENT, () -> x.insert(GREATEST, 0));
        NearRanks most = Kit.countedTo(31);
        Kit.refused("insert(32), 31 elements", most, ARGUMENT, () -> most.insert(32, 0));
        Kit.due("insert(31), 31 elements", most.insert(31, 40), 31);
        Kit.due("at(31)", most.at(31), 40);
    }

    private static void promise3AnyValue() {
        Kit.about("3: value: any value");
        NearRanks x = new NearRanks();
        x.insert(0, Long.MIN_VALUE);
        x.insert(0, Long.MAX_VALUE);
        x.insert(1, 0);
        Kit.due("at(0)", x.at(0), Long.MAX_VALUE);
        Kit.due("at(2)", x.at(2), Long.MIN_VALUE);
        Kit.due("the ranks", Kit.elementsOf(x, 1), "2 1 0");
    }

    private static void promise3MovesBack() {
        Kit.about("3: those from there on move back; returns its number");
        NearRanks x = Kit.countedTo(31);
        Kit.due("insert(0)", x.insert(0, 50), 31);
        for (int place = 1; place < 32; place++) {
            Kit.due("the value that moved back", x.at(place), place - 1);
            Kit.due("its number", x.element(place, 0), place - 1);
        }
        Kit.due("the first value", x.at(0), 50);
    }

    private static void promise3Full() {
        Kit.about("3: throws IllegalStateException if there are 32 elements");
        NearRanks x = Kit.fullRow();
        Kit.refused("insert(0), full", x, STATE, () -> x.insert(0, 1));
        Kit.refused("insert(31), full", x, STATE, () -> x.insert(31, 1));
        Kit.refused("insert(32), full", x, STATE, () -> x.insert(32, 1));
        Kit.refused("insert(33), full", x, ARGUMENT, () -> x.insert(33, 1));
        x.removeAt(31);
        Kit.due("insert(31) where one went", x.insert(31, 1), 32);
    }

    private static void promise4NoSuchPlace() {
        Kit.about("4: throws IndexOutOfBoundsException if there is no such place");
        NearRanks x = Kit.rowOf(6);
        Kit.refused("removeAt(-1)", x, INDEX, () -> x.removeAt(-1));
        Kit.refused("removeAt(1)", x, INDEX, () -> x.removeAt(1));
        Kit.refused("removeAt(least)", x, INDEX, () -> x.removeAt(LEAST));
        Kit.refused("removeAt(greatest)", x, INDEX, () -> x.removeAt(GREATEST));
        Kit.due("removeAt(0) of the only one", x.removeAt(0), 0);
        Kit.refused("removeAt(0), emptied", x, INDEX, () -> x.removeAt(0));
        NearRanks full = Kit.fullRow();
        Kit.refused("removeAt(32), full", full, INDEX, () -> full.removeAt(32));
        Kit.due("removeAt(31), full", full.removeAt(31), 31);
        Kit.refused("removeAt(31) again", full, INDEX, () -> full.removeAt(31));
    }

    private static void promise4MovesUp() {
        Kit.about("4: those behind it move up; returns its number");
        NearRanks x = Kit.countedTo(32);
        Kit.due("removeAt(0), full", x.removeAt(0), 0);
        for (int place = 0; place < 31; place++) {
            Kit.due("the value that moved up", x.at(place), place + 1);
            Kit.due("its number", x.element(place, 0), place + 1);
            Kit.due("its rank", x.element(place, 1), place);
        }
        Kit.due("elements that came", x.whole(9), 32);
        NearRanks none = Kit.rowOf(4);
        none.removeAt(0);
        Kit.due("the whole of an emptied row", Kit.wholesOf(none), "0 2 0 0 0 0 0 0 0 1 0 0");
    }

    private static void promise5NoSuchPlace() {
        Kit.about("5: throws IndexOutOfBoundsException if there is no such place");
        NearRanks empty = new NearRanks();
        Kit.refused("setValue(0), empty", empty, INDEX, () -> empty.setValue(0, 1));
        NearRanks x = Kit.rowOf(6);
        Kit.refused("setValue(-1)", x, INDEX, () -> x.setValue(-1, 1));
        Kit.refused("setValue(1)", x, INDEX, () -> x.setValue(1, 1));
        Kit.refused("setValue(least)", x, INDEX, () -> x.setValue(LEAST, 1));
        Kit.refused("setValue(greatest)", x, INDEX, () -> x.setValue(GREATEST, 1));
        NearRanks full = Kit.fullRow();
        Kit.refused("setValue(32), full", full, INDEX, () -> full.setValue(32, 1));
        Kit.due("setValue(31), full", full.setValue(31, -1), 31);
        Kit.due("setValue(0), full", full.setValue(0, 77), 0);
        Kit.due("the rank of the first", full.element(0, 1), 31);
        Kit.due("the rank of the last", full.element(31, 1), 0);
    }

    private static void promise5AnyValue() {
        Kit.about("5: value: any value; it keeps its number; returns the value that it had");
        NearRanks x = Kit.rowOf(1, 2);
        Kit.due("setValue(1, least)", x.setValue(1, Long.MIN_VALUE), 2);
        Kit.due("setValue(1, greatest)", x.setValue(1, Long.MAX_VALUE), Long.MIN_VALUE);
        Kit.due("setValue(1, 1)", x.setValue(1, 1), Long.MAX_VALUE);
        Kit.due("the ranks", Kit.elementsOf(x, 1), "0 1");
        x.setBound(0);
        x.setSelf(true);
        Kit.due("setValue(0, 9), mended by itself", x.setValue(0, 9), 1);
        Kit.due("the numbers", Kit.elementsOf(x, 0), "1 0");
    }

    private static void promise6NoNextOne() {
        Kit.about("6: throws IndexOutOfBoundsException if there is no such place, or no next one");
        NearRanks empty = new NearRanks();
        Kit.refused("swap(0), empty", empty, INDEX, () -> empty.swap(0));
        Kit.refused("swap(-1), empty", empty, INDEX, () -> empty.swap(-1));
        NearRanks one = Kit.rowOf(1);
        Kit.refused("swap(0), one element", one, INDEX, () -> one.swap(0));
        Kit.refused("swap(-1), one element", one, INDEX, () -> one.swap(-1));
        NearRanks two = Kit.rowOf(1, 2);
        Kit.due("swap(0), two elements", two.swap(0), 1);
        Kit.refused("swap(1), two elements", two, INDEX, () -> two.swap(1));
        NearRanks full = Kit.fullRow();
        Kit.due("swap(30), full", full.swap(30), 1);
        Kit.refused("swap(31), full", full, INDEX, () -> full.swap(31));
        Kit.refused("swap(32), full", full, INDEX, () -> full.swap(32));
        Kit.refused("swap(-1), full", full, INDEX, () -> full.swap(-1));
        Kit.refused("swap(greatest), full", full, INDEX, () -> full.swap(GREATEST));
        Kit.refused("swap(least), full", full, INDEX, () -> full.swap(LEAST));
    }

    private static void promise6WhateverTheValues() {
        Kit.about("6: swaps the elements, whatever their values");
        NearRanks equal = Kit.rowOf(4, 4);
        Kit.due("swap(0) of equal ones", equal.swap(0), 0);
        Kit.due("the numbers", Kit.elementsOf(equal, 0), "1 0");
        Kit.due("the ranks", Kit.elementsOf(equal, 1), "0 1");
        NearRanks ends = Kit.rowOf(Long.MIN_VALUE, Long.MAX_VALUE);
        Kit.due("swap(0) of the ends", ends.swap(0), 1);
        Kit.due("swap(0) of them again", ends.swap(0), -1);
        Kit.due("the numbers", Kit.elementsOf(ends, 0), "0 1");
    }

    private static void promise6MoreInversions() {
        Kit.about("6: by how many the inversions become more, ahead of any mending: 1, 0, or -1");
        NearRanks x = Kit.rowOf(1, 2, 2);
        Kit.due("swap(0)", x.swap(0), 1);
        Kit.due("swap(0) back", x.swap(0), -1);
        Kit.due("swap(1)", x.swap(1), 0);
        x.setOrder(true);
        Kit.due("swap(0), falling", x.swap(0), -1);
        Kit.due("swap(0) back, falling", x.swap(0), 1);
        x.setOrder(false);
        x.setBound(0);
        x.setSelf(true);
        Kit.due("swap(0), mended by itself", x.swap(0), 1);
        Kit.due("the values", Kit.valuesOf(x), "1 2 2");
        Kit.due("the numbers: equal ones stay as they are", Kit.elementsOf(x, 0), "0 2 1");
    }

    private static void promise7BoundRange() {
        Kit.about("7: bound: 0 to 31; throws IllegalArgumentException if bound is out of range");
        NearRanks x = Kit.rowOf(3, 2, 1);
        Kit.due("setBound(0)", x.setBound(0), 2);
        Kit.due("the bound", x.whole(1), 0);
        Kit.due("setBound(31)", x.setBound(31), 0);
        Kit.due("the bound", x.whole(1), 31);
        Kit.refused("setBound(-1)", x, ARGUMENT, () -> x.setBound(-1));
        Kit.refused("setBound(32)", x, ARGUMENT, () -> x.setBound(32));
        Kit.refused("setBound(least)", x, ARGUMENT, () -> x.setBound(LEAST));
        Kit.refused("setBound(greatest)", x, ARGUMENT, () -> x.setBound(GREATEST));
        NearRanks empty = new NearRanks();
        Kit.due("setBound(0), empty", empty.setBound(0), 0);
        Kit.refused("setBound(32), empty", empty, ARGUMENT, () -> empty.setBound(32));
    }

    private static void promise7BrokenThen() {
        Kit.about("7: returns the number of elements that are broken then, ahead of any mending");
        NearRanks x = Kit.countedTo(32);
        x.setOrder(true);
        // The element at the place p has the distance 2 * p - 31.
        Kit.due("setBound(30)", x.setBound(30), 2);
        Kit.due("setBound(29)", x.setBound(29), 2);
        Kit.due("setBound(28)", x.setBound(28), 4);
        Kit.due("setBound(1)", x.setBound(1), 30);
        Kit.due("setBound(0)", x.setBound(0), 32);
        x.setBound(31);
        x.setSelf(true);
        Kit.due("setBound(0), mended by itself", x.setBound(0), 32);
        Kit.due("the steps", x.whole(7), 496);
        Kit.due("broken ones after it", x.whole(4), 0);
    }

    private static void promise8Inversions() {
        Kit.about("8: returns the number of inversions then, ahead of any mending");
        NearRanks empty = new NearRanks();
        Kit.due("setOrder(true), empty", empty.setOrder(true), 0);
        Kit.due("the order", empty.whole(2), 1);
        Kit.due("setOrder(true) again", empty.setOrder(true), 0);
        Kit.due("setOrder(false)", empty.setOrder(false), 0);
        Kit.due("setOrder(true), one element", Kit.rowOf(1).setOrder(true), 0);
        Kit.due("setOrder(true), equal ones", Kit.fullOf(1).setOrder(true), 0);
        NearRanks full = Kit.countedTo(32);
        Kit.due("setOrder(false), full", full.setOrder(false), 0);
        Kit.due("setOrder(true), full", full.setOrder(true), 496);
        full.setOrder(false);
        full.setBound(0);
        full.setSelf(true);
        Kit.due("setOrder(true), full, mended by itself", full.setOrder(true), 496);
        Kit.due("the inversions after it", full.whole(5), 0);
        Kit.due("the first value", full.at(0), 31);
    }

    private static void promise9Steps() {
        Kit.about("9: returns the number of steps that are done by it");
        NearRanks x = Kit.countedTo(32);
        x.setOrder(true);
        x.setBound(0);
        Kit.due("setSelf(false), all wrong", x.setSelf(false), 0);
        Kit.due("the inversions", x.whole(5), 496);
        Kit.due("setSelf(true), all wrong", x.setSelf(true), 496);
        Kit.due("setSelf(true) again", x.setSelf(true), 0);
        Kit.due("setSelf(false)", x.setSelf(false), 0);
        Kit.due("setSelf(true), empty", new NearRanks().setSelf(true), 0);
        NearRanks atBound = Kit.rowOf(2, 1, 0);
        Kit.due("setSelf(true), at the bound", atBound.setSelf(true), 0);
        Kit.due("the switch", atBound.whole(3), 1);
    }

    private static void promise10InBound() {
        Kit.about("10: if the row is not in bound; NONE if the row is in bound");
        NearRanks x = Kit.rowOf(2, 1, 0);
        Kit.due("step(), at the bound", x.step(), NONE);
        Kit.due("the steps", x.whole(7), 0);
        Kit.due("the values", Kit.valuesOf(x), "2 1 0");
        x.setBound(1);
        Kit.due("step(), past the bound", x.step(), 0);
        Kit.due("step(), the last one still past it", x.step(), 1);
        Kit.due("step(), in bound again", x.step(), NONE);
        Kit.due("step(), empty", new NearRanks().step(), NONE);
        NearRanks one = Kit.rowOf(3);
        one.setBound(0);
        Kit.due("step(), one element", one.step(), NONE);
        NearRanks same = Kit.fullOf(3);
        same.setBound(0);
        Kit.due("step(), equal ones", same.step(), NONE);
    }

    private static void promise10OneStep() {
        Kit.about("10: does one step of mending; returns the lower one of the two places");
        NearRanks x = Kit.countedTo(32);
        x.setOrder(true);
        x.setBound(30);
        Kit.due("step(), all wrong", x.step(), 0);
        Kit.due("the inversions", x.whole(5), 495);
        Kit.due("step(), the last one is left", x.step(), 30);
        Kit.due("step(), in bound", x.step(), NONE);
        Kit.due("the steps", x.whole(7), 2);
    }

    private static void promise11Steps() {
        Kit.about("11: mends the row; returns the number of steps");
        NearRanks x = Kit.countedTo(32);
        x.setOrder(true);
        x.setBound(31);
        Kit.due("mend(), bound 31", x.mend(), 0);
        x.setBound(30);
        Kit.due("mend(), bound 30", x.mend(), 2);
        x.setBound(0);
        Kit.due("mend(), bound 0", x.mend(), 494);
        Kit.due("mend(), in bound", x.mend(), 0);
        Kit.due("the steps in all", x.whole(7), 496);
    }

    private static void promise12AnyValue() {
        Kit.about("12: value: any value; NONE if it is not found");
        NearRanks x = Kit.rowOf(Long.MIN_VALUE, 0, Long.MAX_VALUE);
        x.setBound(0);
        Kit.due("search(least)", x.search(Long.MIN_VALUE), 0);
        Kit.due("search(greatest)", x.search(Long.MAX_VALUE), 2);
        Kit.due("search(greatest - 1)", x.search(Long.MAX_VALUE - 1), NONE);
        Kit.due("search(least + 1)", x.search(Long.MIN_VALUE + 1), NONE);
        x.setOrder(true);
        x.mend();
        Kit.due("search(least), falling", x.search(Long.MIN_VALUE), 2);
        Kit.due("search(greatest), falling", x.search(Long.MAX_VALUE), 0);
        Kit.due("search(0), empty", new NearRanks().search(0), NONE);
        NearRanks full = Kit.countedTo(32);
        Kit.due("search(0), full", full.search(0), 0);
        Kit.due("search(31), full", full.search(31), 31);
        Kit.due("search(32), full", full.search(32), NONE);
    }

    private static void promise12CountsTheLooks() {
        Kit.about("12: searches for a value, and counts the looks in whole(8)");
        NearRanks x = new NearRanks();
        x.search(1);
        Kit.due("the looks in an empty row", x.whole(8), 0);
        x.append(1);
        x.search(1);
        Kit.due("the looks at one element", x.whole(8), 1);
        x.search(2);
        Kit.due("the looks when it is not found", x.whole(8), 2);
        x.undo();
        Kit.due("the looks after undo()", x.whole(8), 1);
        x.found(1, 1);
        x.digest();
        Kit.due("the looks of search() alone", x.whole(8), 1);
    }
}

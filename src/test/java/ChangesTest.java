/** Promises 2 to 12: the changes. */
public final class ChangesTest {
    private static final Class<?> ARGUMENT = IllegalArgumentException.class;
    private static final Class<?> STATE = IllegalStateException.class;
    private static final Class<?> INDEX = IndexOutOfBoundsException.class;

    private ChangesTest() {
    }

    public static void main(String[] args) {
        promise2Append();
        promise3Insert();
        promise4RemoveAt();
        promise5SetValue();
        promise6Swap();
        promise7SetBound();
        promise8SetOrder();
        promise9SetSelf();
        promise10Step();
        promise10Ties();
        promise11Mend();
        promise12Search();
        mendingByItself();
        Kit.end();
    }

    private static void promise2Append() {
        NearRanks x = new NearRanks();
        long[] values = {5, 1, 9, 3, 3, 7, 0};
        int[] distances = {0, 1, 0, 2, 2, 1, 6};
        for (int i = 0; i < values.length; i++) {
            Kit.due("append(" + values[i] + ")", x.append(values[i]), distances[i]);
        }
        Kit.due("the values", Kit.valuesOf(x), "5 1 9 3 3 7 0");
        Kit.due("the numbers", Kit.elementsOf(x, 0), "0 1 2 3 4 5 6");
        Kit.undoable("append", x, () -> x.append(4));

        NearRanks falling = new NearRanks();
        falling.setOrder(true);
        Kit.due("append(1), falling", falling.append(1), 0);
        Kit.due("append(2), falling", falling.append(2), 1);
        Kit.due("append(2), falling", falling.append(2), 1);
        Kit.due("append(0), falling", falling.append(0), 0);

        NearRanks ends = Kit.rowOf(Long.MAX_VALUE, 0);
        Kit.due("append(least)", ends.append(Long.MIN_VALUE), 2);
        Kit.due("append(greatest)", ends.append(Long.MAX_VALUE), 0);

        NearRanks full = Kit.countedTo(31);
        Kit.due("append as the 32nd", full.append(0), 30);
        Kit.refused("append to 32 elements", full, STATE, () -> full.append(0));
    }

    private static void promise3Insert() {
        NearRanks x = new NearRanks();
        Kit.due("insert(0, 5)", x.insert(0, 5), 0);
        Kit.due("insert(0, 6)", x.insert(0, 6), 1);
        Kit.due("insert(2, 7)", x.insert(2, 7), 2);
        Kit.due("insert(1, 8)", x.insert(1, 8), 3);
        Kit.due("the values", Kit.valuesOf(x), "6 8 5 7");
        Kit.due("the numbers", Kit.elementsOf(x, 0), "1 3 0 2");
        x.removeAt(1);
        Kit.due("insert after removeAt", x.insert(3, 8), 4);
        Kit.undoable("insert", x, () -> x.insert(1, 1));
        Kit.due("the number after undo()", x.insert(1, 1), 5);
        Kit.refused("insert(-1)", x, ARGUMENT, () -> x.insert(-1, 0));
        Kit.refused("insert(6)", x, ARGUMENT, () -> x.insert(6, 0));
        Kit.refused("insert(least)", x, ARGUMENT, () -> x.insert(Integer.MIN_VALUE, 0));
        Kit.refused("insert(greatest)", x, ARGUMENT, () -> x.insert(Integer.MAX_VALUE, 0));

        NearRanks full = Kit.countedTo(32);
        Kit.refused("insert(0), full", full, STATE, () -> full.insert(0, 0));
        Kit.refused("insert(32), full", full, STATE, () -> full.insert(32, 0));
        Kit.refused("insert(33), full", full, ARGUMENT, () -> full.insert(33, 0));
        Kit.refused("insert(-1), full", full, ARGUMENT, () -> full.insert(-1, 0));
    }

    private static void promise4RemoveAt() {
        NearRanks x = Kit.rowOf(4, 5, 6, 7);
        Kit.due("removeAt(1)", x.removeAt(1), 1);
        Kit.due("removeAt(1)", x.removeAt(1), 2);
        Kit.due("the values", Kit.valuesOf(x), "4 7");
        Kit.due("the numbers", Kit.elementsOf(x, 0), "0 3");
        Kit.undoable("removeAt", x, () -> x.removeAt(0));
        NearRanks ranks = Kit.rowOf(5, 1, 3, 3);
        ranks.removeAt(1);
        Kit.due("the ranks", Kit.elementsOf(ranks, 1), "2 0 1");
        Kit.refused("removeAt(2)", x, INDEX, () -> x.removeAt(2));
        Kit.refused("removeAt(-1)", x, INDEX, () -> x.removeAt(-1));
        Kit.refused("removeAt(greatest)", x, INDEX, () -> x.removeAt(Integer.MAX_VALUE));
        NearRanks empty = new NearRanks();
        Kit.refused("removeAt(0), empty", empty, INDEX, () -> empty.removeAt(0));
        NearRanks full = Kit.countedTo(32);
        Kit.due("removeAt(31)", full.removeAt(31), 31);
        Kit.due("removeAt(0)", full.removeAt(0), 0);
        Kit.due("elements left", full.whole(0), 30);
        Kit.due("the first one", full.at(0), 1);
        Kit.due("the last one", full.at(29), 30);
    }

    private static void promise5SetValue() {
        NearRanks x = Kit.rowOf(4, 5, 6);
        Kit.due("setValue(1, 9)", x.setValue(1, 9), 5);
        Kit.due("setValue(1, least)", x.setValue(1, Long.MIN_VALUE), 9);
        Kit.due("setValue(1, 3)", x.setValue(1, 3), Long.MIN_VALUE);
        Kit.due("the values", Kit.valuesOf(x), "4 3 6");
        Kit.due("the numbers", Kit.elementsOf(x, 0), "0 1 2");
        Kit.due("the ranks", Kit.elementsOf(x, 1), "1 0 2");
        Kit.due("elements that came", x.whole(9), 3);
        Kit.undoable("setValue", x, () -> x.setValue(0, 8));
        Kit.undoable("setValue to the same", x, () -> x.setValue(0, 4));
        Kit.refused("setValue(3)", x, INDEX, () -> x.setValue(3, 0));
        Kit.refused("setValue(-1)", x, INDEX, () -> x.setValue(-1, 0));
        NearRanks empty = new NearRanks();
        Kit.refused("setValue(0), empty", empty, INDEX, () -> empty.setValue(0, 0));
    }

    private static void promise6Swap() {
        NearRanks x = Kit.rowOf(1, 2, 2, 0);
        Kit.due("swap(0) makes one", x.swap(0), 1);
        Kit.due("swap(0) takes one", x.swap(0), -1);
        Kit.due("swap(1) of the same", x.swap(1), 0);
        Kit.due("swap(2)", x.swap(2), -1);
        Kit.due("the values", Kit.valuesOf(x), "1 2 0 2");
        Kit.due("the numbers", Kit.elementsOf(x, 0), "0 2 3 1");
        Kit.due("the ranks", Kit.elementsOf(x, 1), "1 2 0 3");
        Kit.undoable("swap", x, () -> x.swap(2));
        x.setOrder(true);
        Kit.due("swap(0), falling", x.swap(0), -1);
        Kit.refused("swap(3)", x, INDEX, () -> x.swap(3));
        Kit.refused("swap(4)", x, INDEX, () -> x.swap(4));
        Kit.refused("swap(-1)", x, INDEX, () -> x.swap(-1));
        Kit.refused("swap(greatest)", x, INDEX, () -> x.swap(Integer.MAX_VALUE));
        Kit.refused("swap(least)", x, INDEX, () -> x.swap(Integer.MIN_VALUE));
        NearRanks empty = new NearRanks();
        Kit.refused("swap(0), empty", empty, INDEX, () -> empty.swap(0));
        Kit.refused("swap(-1), empty", empty, INDEX, () -> empty.swap(-1));
        NearRanks one = Kit.rowOf(1);
        Kit.refused("swap(0), one element", one, INDEX, () -> one.swap(0));
    }

    private static void promise7SetBound() {
        // The distances are -4 0 -4 1 1 0 6.
        NearRanks x = Kit.rowOf(5, 1, 9, 3, 3, 7, 0);
        Kit.due("setBound(0)", x.setBound(0), 5);
        Kit.due("setBound(1)", x.setBound(1), 3);
        Kit.due("setBound(3)", x.setBound(3), 3);
        Kit.due("setBound(4)", x.setBound(4), 1);
        Kit.due("setBound(6)", x.setBound(6), 0);
        Kit.due("setBound(31)", x.setBound(31), 0);
        Kit.due("the bound", x.whole(1), 31);
        Kit.undoable("setBound", x, () -> x.setBound(5));
        Kit.undoable("setBound to the same", x, () -> x.setBound(31));
        Kit.refused("setBound(-1)", x, ARGUMENT, () -> x.setBound(-1));
        Kit.refused("setBound(32)", x, ARGUMENT, () -> x.setBound(32));
        x.setBound(1);
        x.setSelf(true);
        Kit.due("setBound(0), mended by itself", x.setBound(0) > 0 ? 1 : 0, 1);
        Kit.due("the values", Kit.valuesOf(x), "0 1 3 3 5 7 9");
    }

    private static void promise8SetOrder() {
        NearRanks x = Kit.rowOf(5, 1, 9, 3, 3, 7, 0);
        Kit.due("setOrder(false)", x.setOrder(false), 12);
        Kit.due("setOrder(true)", x.setOrder(true), 8);
        Kit.due("the order", x.whole(2), 1);
        Kit.due("the ranks", Kit.elementsOf(x, 1), "2 5 0 3 4 1 6");
        Kit.undoable("setOrder(false)", x, () -> x.setOrder(false));
        Kit.undoable("setOrder(true) again", x, () -> x.setOrder(true));
        NearRanks mended = Kit.countedTo(4);
        mended.setBound(0);
        mended.setSelf(true);
        Kit.due("setOrder(true), mended by itself", mended.setOrder(true), 6);
        Kit.due("the values", Kit.valuesOf(mended), "3 2 1 0");
        Kit.due("the steps", mended.whole(7), 6);
    }

    private static void promise9SetSelf() {
        NearRanks x = Kit.rowOf(5, 1, 9, 3, 3, 7, 0);
        Kit.undoable("setSelf(true)", x, () -> x.setSelf(true));
        Kit.due("setSelf(false)", x.setSelf(false), 0);
        Kit.due("setSelf(true)", x.setSelf(true), 7);
        Kit.due("the switch", x.whole(3), 1);
        Kit.due("the values", Kit.valuesOf(x), "1 3 0 5 9 3 7");
        Kit.due("setSelf(true) again", x.setSelf(true), 0);
        Kit.due("setSelf(false)", x.setSelf(false), 0);
        Kit.due("the switch", x.whole(3), 0);
        x.append(-1);
        Kit.due("broken elements are left", x.broken(), 0b10010000);
    }

    private static void promise10Step() {
        NearRanks x = Kit.rowOf(5, 1, 9, 3, 3, 7, 0);
        int[] lowers = {5, 4, 0, 2, 3, 1, 2};
        String[] rows = {"5 1 9 3 3 0 7", "5 1 9 3 0 3 7", "1 5 9 3 0 3 7", "1 5 3 9 0 3 7",
            "1 5 3 0 9 3 7", "1 3 5 0 9 3 7", "1 3 0 5 9 3 7"};
        for (int i = 0; i < lowers.length; i++) {
            Kit.undoable("step", x, x::step);
            Kit.due("step " + i, x.step(), lowers[i]);
            Kit.due("the values", Kit.valuesOf(x), rows[i]);
            Kit.due("the inversions", x.whole(5), 11 - i);
            Kit.due("the steps", x.whole(7), i + 1);
        }
        Kit.due("step in bound", x.step(), NearRanks.NONE);
        Kit.due("the steps", x.whole(7), 7);
        NearRanks empty = new NearRanks();
        Kit.due("step, empty", empty.step(), NearRanks.NONE);
        Kit.due("undo() of a step that did nothing", empty.undo(), 0);
    }

    /** Of several with the greatest distance the one at the lowest place is looked at. */
    private static void promise10Ties() {
        // The distances are -3 1 1 1 and 3 -1 -1 -1 of four more: the first of the threes counts.
        NearRanks x = Kit.rowOf(3, 0, 1, 2, 5, 6, 7, 4);
        Kit.due("the distances", Kit.elementsOf(x, 2), "-3 1 1 1 -1 -1 -1 3");
        Kit.due("step", x.step(), 0);
        Kit.due("step", x.step(), 6);
        NearRanks y = Kit.rowOf(1, 2, 3, 0, 7, 4, 5, 6);
        Kit.due("the distances", Kit.elementsOf(y, 2), "-1 -1 -1 3 -3 1 1 1");
        Kit.due("step", y.step(), 2);
        Kit.due("step", y.step(), 4);
        // The fall nearest on the right need not be the element's own: that of 4 and 0 here.
        NearRanks z = Kit.rowOf(3, 4, 0, 0);
        z.setBound(1);
        Kit.due("the distances", Kit.elementsOf(z, 2), "-2 -2 2 2");
        Kit.due("step", z.step(), 1);
        NearRanks w = Kit.rowOf(3, 3, 4, 3, 0, 0, 0);
        w.setBound(3);
        Kit.due("the distances", Kit.elementsOf(w, 2), "-3 -3 -4 -2 4 4 4");
        Kit.due("step", w.step(), 2);
    }

    private static void promise11Mend() {
        NearRanks x = Kit.rowOf(5, 1, 9, 3, 3, 7, 0);
        Kit.undoable("mend", x, x::mend);
        Kit.due("mend", x.mend(), 7);
        Kit.due("the values", Kit.valuesOf(x), "1 3 0 5 9 3 7");
        Kit.due("mend in bound", x.mend(), 0);
        x.setBound(0);
        Kit.due("mend with the bound 0", x.mend(), 5);
        Kit.due("the values", Kit.valuesOf(x), "0 1 3 3 5 7 9");
        Kit.due("the numbers", Kit.elementsOf(x, 0), "6 1 3 4 0 5 2");
        Kit.due("the steps", x.whole(7), 12);

        NearRanks back = new NearRanks();
        for (int value = 31; value >= 0; value--) {
            back.append(value);
        }
        back.setBound(0);
        Kit.due("mend a row that is all wrong", back.mend(), 496);
        Kit.due("no inversions are left", back.whole(5), 0);
        back.setOrder(true);
        Kit.due("mend a falling one", back.mend(), 496);
        NearRanks empty = new NearRanks();
        Kit.due("mend, empty", empty.mend(), 0);
        Kit.due("undo() of a mend that did nothing", empty.undo(), 0);
    }

    private static void promise12Search() {
        NearRanks x = Kit.countedTo(10);
        x.setBound(0);
        Kit.due("search(7)", x.search(7), 7);
        Kit.due("the looks", x.whole(8), 2);
        Kit.due("search(0)", x.search(0), 0);
        Kit.due("the looks", x.whole(8), 7);
        Kit.due("search(10)", x.search(10), NearRanks.NONE);
        Kit.due("the looks", x.whole(8), 12);
        Kit.undoable("search", x, () -> x.search(4));
        x.found(4, 1);
        x.worstSearch();
        x.lostValues();
        Kit.due("the looks of search() alone", x.whole(8), 12);
        NearRanks empty = new NearRanks();
        Kit.due("search, empty", empty.search(0), NearRanks.NONE);
        Kit.due("the looks", empty.whole(8), 0);
        Kit.due("undo() of a search", empty.undo(), 0);
    }

    /** Each change mends at its end, its answer is from ahead of that, and counts the steps. */
    private static void mendingByItself() {
        NearRanks x = Kit.countedTo(6);
        x.setBound(1);
        x.setSelf(true);
        Kit.due("append(0)", x.append(0), 5);
        Kit.due("the values", Kit.valuesOf(x), "0 1 0 2 3 4 5");
        Kit.due("the steps", x.whole(7), 4);
        Kit.due("insert(0, 9)", x.insert(0, 9), 7);
        Kit.due("in bound after insert", x.whole(4), 0);
        Kit.due("setValue", x.setValue(7, -4) >= 4 ? 1 : 0, 1);
        Kit.due("in bound after setValue", x.whole(4), 0);
        x.setBound(0);
        Kit.due("swap(0)", x.swap(0), 1);
        Kit.due("swapped back by itself", x.whole(5), 0);
        int steps = x.whole(7);
        x.removeAt(0);
        Kit.due("removeAt leaves it in bound", x.whole(7), steps);
        Kit.due("in bound after removeAt", x.whole(4), 0);
        Kit.due("step in bound", x.step(), NearRanks.NONE);
    }
}

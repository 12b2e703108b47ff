/**
 * A row of values that is nearly sorted: no value may lie farther from its rank than the bound
 * tells, neighbours are swapped where one does, and a search trusts that bound.
 *
 * <p>All rows and buffers are made with the object and used again, so that no call but one that
 * throws makes anything.
 */
public final class NearRanks {

    /** Returned where there is no such value. */
    public static final int NONE = -1000;

    private static final int MOST_ELEMENTS = 32;
    private static final int MOST_BOUND = 31;
    private static final int FIRST_BOUND = 2;
    private static final int MOST_BYTES = 150;
    private static final int MOST_BYTE = 127;
    private static final int MOST_DIGITS = 9;
    private static final int MOST_SAVED = 4;
    // Each step takes an inversion away, and 32 elements have 496 of them at the most.
    private static final int MOST_STEPS = 1000;
    private static final int MOST_ELEMENT_WHAT = 5;
    private static final int MOST_WHOLE_WHAT = 11;
    private static final int MOST_FOUND_WHAT = 3;
    private static final int FAULT_BASE = -10;
    private static final long DIGEST_START = 43814L;

    private final Row row = new Row();
    // What-if questions are played through here, so that the row itself stays as it is.
    private final Row trial = new Row();
    private final Search probe = new Search();
    private final CommandText commands = new CommandText();
    private final History history = new History();

    /** Creates an empty row in rising order, with the bound 2, that is not mended by itself. */
    public NearRanks() {
    }

    // ---- changes

    /** Appends a value at the end and returns its distance ahead of any mending. */
    public int append(long value) throws IllegalStateException {
        requireRoom();
        history.save(row);
        row.insertElement(row.size, value);
        int distance = row.distance(row.size - 1);
        endChange();
        return distance;
    }

    /** Inserts a value at a place and returns its number. */
    public int insert(int place, long value)
            throws IllegalArgumentException, IllegalStateException {
        if (!row.canOpen(place)) {
            throw new IllegalArgumentException("no place to insert at");
        }
        requireRoom();
        history.save(row);
        int number = row.came;
        row.insertElement(place, value);
        endChange();
        return number;
    }

    /** Removes the element at a place and returns its number. */
    public int removeAt(int place) throws IndexOutOfBoundsException {
        requirePlace(place);
        history.save(row);
        int number = row.numbers[place];
        row.takeOut(place);
        endChange();
        return number;
    }

    /** Gives the element at a place another value and returns the one that it had. */
    public long setValue(int place, long value) throws IndexOutOfBoundsException {
        requirePlace(place);
        history.save(row);
        long old = row.values[place];
        row.changeValue(place, value);
        endChange();
        return old;
    }

    /** Swaps the elements at a place and at the next one; returns what inversions come by it. */
    public int swap(int place) throws IndexOutOfBoundsException {
        if (!row.hasNext(place)) {
            throw new IndexOutOfBoundsException("no such place, or no next one");
        }
        history.save(row);
        int more = row.inversionsBySwap(place);
        row.swapElements(place);
        endChange();
        return more;
    }

    /** Sets the bound and returns how many elements are broken then, ahead of any mending. */
    public int setBound(int bound) throws IllegalArgumentException {
        requireBound(bound);
        history.save(row);
        row.changeBound(bound);
        int count = row.brokenCount();
        endChange();
        return count;
    }

    /** Sets the order and returns the number of inversions then, ahead of any mending. */
    public int setOrder(boolean falling) {
        history.save(row);
        row.changeOrder(falling);
        int inversions = row.inversions();
        endChange();
        return inversions;
    }

    /** Switches mending by itself on or off and returns the number of steps done by it. */
    public int setSelf(boolean on) {
        history.save(row);
        row.mendsItself = on;
        return endChange();
    }

    /** Does one step of mending; returns the lower place, NONE if the row is in bound. */
    public int step() {
        history.save(row);
        return row.mendOnce();
    }

    /** Mends the row and returns the number of steps. */
    public int mend() {
        history.save(row);
        return row.mendFully();
    }

    /** Searches for a value and counts the looks; returns the place, NONE if it is not found. */
    public int search(long value) {
        history.save(row);
        probe.lookFor(row, value);
        row.looks += probe.looks;
        return probe.place;
    }

    // ---- values

    /** Returns the value at a place. */
    public long at(int place) throws IndexOutOfBoundsException {
        requirePlace(place);
        return row.values[place];
    }

    /** Returns a value of the element at a place. */
    public int element(int place, int what)
            throws IndexOutOfBoundsException, IllegalArgumentException {
        requirePlace(place);
        if (what < 0 || what > MOST_ELEMENT_WHAT) {
            throw new IllegalArgumentException("no such value of an element");
        }
        return elementValue(place, what);
    }

    /** Returns the value with a rank. */
    public long ranked(int rank) throws IndexOutOfBoundsException {
        int place = row.placeOfRank(rank);
        if (!row.isPlace(place)) {
            throw new IndexOutOfBoundsException("no element with this rank");
        }
        return row.values[place];
    }

    /** Returns the set of places whose elements are broken, bit p for the place p. */
    public long broken() {
        return row.brokenSet();
    }

    /** Returns a value of the whole. */
    public int whole(int what) throws IllegalArgumentException {
        if (what < 0 || what > MOST_WHOLE_WHAT) {
            throw new IllegalArgumentException("no such value of the whole");
        }
        return wholeValue(what);
    }

    // ---- what if, which changes nothing

    /** Tells what a search for a value would come to. */
    public int found(long value, int what) throws IllegalArgumentException {
        if (what < 0 || what > MOST_FOUND_WHAT) {
            throw new IllegalArgumentException("no such value of a search");
        }
        probe.lookFor(row, value);
        switch (what) {
            case 0:
                return probe.place;
            case 1:
                return probe.looks;
            case 2:
                return probe.low;
            default:
                return probe.high;
        }
    }

    /** Returns the greatest number of looks of a search for any value that is in the row. */
    public int worstSearch() {
        int worst = 0;
        for (int place = 0; place < row.size; place++) {
            probe.lookFor(row, row.values[place]);
            worst = Math.max(worst, probe.looks);
        }
        return worst;
    }

    /** Tells how many steps mending would take with another bound. */
    public int stepsFor(int bound) throws IllegalArgumentException {
        requireBound(bound);
        trial.copyFrom(row);
        trial.changeBound(bound);
        return trial.mendFully();
    }

    /** Returns the lowest place where inserting a value would leave the fewest broken elements. */
    public int bestPlace(long value) {
        if (!row.hasRoom()) {
            return NONE;
        }
        trial.copyFrom(row);
        trial.insertElement(0, value);
        int best = 0;
        int fewest = trial.brokenCount();
        for (int place = 1; place < trial.size; place++) {
            trial.swapElements(place - 1);
            int count = trial.brokenCount();
            if (count < fewest) {
                fewest = count;
                best = place;
            }
        }
        return best;
    }

    /** Returns the rank that a value would have if it was appended. */
    public int rankOf(long value) {
        int rank = 0;
        for (int place = 0; place < row.size; place++) {
            if (!row.isAhead(value, row.values[place])) {
                rank++;
            }
        }
        return rank;
    }

    /** Counts the elements whose values a search would not find at any place. */
    public int lostValues() {
        int lost = 0;
        for (int place = 0; place < row.size; place++) {
            probe.lookFor(row, row.values[place]);
            if (probe.place == NONE) {
                lost++;
            }
        }
        return lost;
    }

    // ---- command text, undo and checksum

    /** Appends a byte to the command text and returns the length of the text. */
    public int type(int value) throws IllegalArgumentException, IllegalStateException {
        if (value < 0 || value > MOST_BYTE) {
            throw new IllegalArgumentException("no such byte");
        }
        if (commands.isFull()) {
            throw new IllegalStateException("the command text is full");
        }
        commands.addByte(value);
        return commands.length;
    }

    /** Empties the command text and returns the length that it had. */
    public int clearCommands() {
        int length = commands.length;
        commands.length = 0;
        return length;
    }

    /** Runs the command text; returns the commands carried out, or -10 minus its fault. */
    public int runCommands() {
        int fault = commands.findFault();
        if (fault != NONE) {
            return FAULT_BASE - fault;
        }
        history.save(row);
        commands.rewind();
        int done = 0;
        while (done < MOST_BYTES && commands.hasMore() && commands.readCommand() && carryOut()) {
            endChange();
            done++;
        }
        return done;
    }

    /** Restores the latest saved state and returns the number of states that are left. */
    public int undo() throws IllegalStateException {
        if (history.count == 0) {
            throw new IllegalStateException("no state is saved");
        }
        history.restoreLatest(row);
        return history.count;
    }

    /** Returns a hash of the state. */
    public long digest() {
        long hash = 31 * DIGEST_START + history.count;
        for (int what = 0; what <= MOST_WHOLE_WHAT; what++) {
            hash = 31 * hash + wholeValue(what);
        }
        for (int place = 0; place < row.size; place++) {
            hash = 31 * hash + row.values[place];
            for (int what = 0; what <= MOST_ELEMENT_WHAT; what++) {
                hash = 31 * hash + elementValue(place, what);
            }
        }
        hash = 31 * hash + row.brokenSet();
        hash = 31 * hash + worstSearch();
        return 31 * hash + lostValues();
    }

    private void requireRoom() {
        if (!row.hasRoom()) {
            throw new IllegalStateException("the row is full");
        }
    }

    private void requirePlace(int place) {
        if (!row.isPlace(place)) {
            throw new IndexOutOfBoundsException("no such place");
        }
    }

    private void requireBound(int bound) {
        if (!row.isBound(bound)) {
            throw new IllegalArgumentException("no such bound");
        }
    }

    private int endChange() {
        return row.mendsItself ? row.mendFully() : 0;
    }

    /** Carries out the command that was read last; false, and nothing done, if it would throw. */
    private boolean carryOut() {
        Word word = commands.word;
        if (word == null) {
            return false;
        }
        switch (word) {
            case ADD:
                return row.insertElement(row.size, commands.value);
            case PUT:
                return row.insertElement(commands.number, commands.value);
            case DEL:
                return row.takeOut(commands.number);
            case SET:
                return row.changeValue(commands.number, commands.value);
            case SWAP:
                return row.swapElements(commands.number);
            case BOUND:
                return row.changeBound(commands.number);
            default:
                row.mendFully();
                return true;
        }
    }

    private int elementValue(int place, int what) {
        switch (what) {
            case 0:
                return row.numbers[place];
            case 1:
                return row.ranks[place];
            case 2:
                return row.distance(place);
            case 3:
                return row.isBroken(place) ? 1 : 0;
            case 4:
                return row.isFall(place) ? 1 : 0;
            default:
                return row.inversionsOf(place);
        }
    }

    private int wholeValue(int what) {
        switch (what) {
            case 0:
                return row.size;
            case 1:
                return row.bound;
            case 2:
                return row.falling ? 1 : 0;
            case 3:
                return row.mendsItself ? 1 : 0;
            case 4:
                return row.brokenCount();
            case 5:
                return row.inversions();
            case 6:
                return row.falls();
            case 7:
                return row.steps;
            case 8:
                return row.looks;
            case 9:
                return row.came;
            case 10:
                return row.greatestDistance();
            default:
                return commands.length;
        }
    }

    /** The whole state that undo() brings back: all but the command text. */
    private static final class Row {
        private final long[] values = new long[MOST_ELEMENTS];
        private final int[] numbers = new int[MOST_ELEMENTS];
        // They follow from the values and the order, and are kept right by each change.
        private final int[] ranks = new int[MOST_ELEMENTS];
        private int size;
        private int bound = FIRST_BOUND;
        private boolean falling;
        private boolean mendsItself;
        private int steps;
        private int looks;
        // The next number too: numbers are not used again.
        private int came;

        void copyFrom(Row other) {
            System.arraycopy(other.values, 0, values, 0, MOST_ELEMENTS);
            System.arraycopy(other.numbers, 0, numbers, 0, MOST_ELEMENTS);
            System.arraycopy(other.ranks, 0, ranks, 0, MOST_ELEMENTS);
            size = other.size;
            bound = other.bound;
            falling = other.falling;
            mendsItself = other.mendsItself;
            steps = other.steps;
            looks = other.looks;
            came = other.came;
        }

        boolean hasRoom() {
            return size < MOST_ELEMENTS;
        }

        boolean isPlace(int place) {
            return place >= 0 && place < size;
        }

        // Not place + 1 < size: that sum wraps for the greatest int.
        boolean hasNext(int place) {
            return place >= 0 && place < size - 1;
        }

        boolean canOpen(int place) {
            return place >= 0 && place <= size;
        }

        boolean isBound(int wanted) {
            return wanted >= 0 && wanted <= MOST_BOUND;
        }

        boolean isAhead(long value, long other) {
            return falling ? value > other : value < other;
        }

        int distance(int place) {
            return isPlace(place) ? place - ranks[place] : 0;
        }

        boolean isBroken(int place) {
            return Math.abs(distance(place)) > bound;
        }

        boolean isFall(int place) {
            return hasNext(place) && isAhead(values[place + 1], values[place]);
        }

        // A change that cannot be answers false and does nothing: a run of commands ends there.

        boolean insertElement(int place, long value) {
            if (!hasRoom() || !canOpen(place)) {
                return false;
            }
            for (int to = size; to > place; to--) {
                values[to] = values[to - 1];
                numbers[to] = numbers[to - 1];
            }
            values[place] = value;
            numbers[place] = came;
            came++;
            size++;
            refreshRanks();
            return true;
        }

        boolean takeOut(int place) {
            if (!isPlace(place)) {
                return false;
            }
            size--;
            for (int to = place; to < size; to++) {
                values[to] = values[to + 1];
                numbers[to] = numbers[to + 1];
            }
            refreshRanks();
            return true;
        }

        boolean changeValue(int place, long value) {
            if (!isPlace(place)) {
                return false;
            }
            values[place] = value;
            refreshRanks();
            return true;
        }

        boolean changeBound(int wanted) {
            if (!isBound(wanted)) {
                return false;
            }
            bound = wanted;
            return true;
        }

        void changeOrder(boolean wanted) {
            falling = wanted;
            refreshRanks();
        }

        boolean swapElements(int place) {
            if (!hasNext(place)) {
                return false;
            }
            int next = place + 1;
            int number = numbers[place];
            numbers[place] = numbers[next];
            numbers[next] = number;
            // Of equal values the lower place has the lower rank, whichever element lies there.
            if (values[place] != values[next]) {
                long value = values[place];
                values[place] = values[next];
                values[next] = value;
                int rank = ranks[place];
                ranks[place] = ranks[next];
                ranks[next] = rank;
            }
            return true;
        }

        int inversionsBySwap(int place) {
            if (!hasNext(place) || values[place] == values[place + 1]) {
                return 0;
            }
            return isFall(place) ? -1 : 1;
        }

        private void refreshRanks() {
            for (int place = 0; place < size; place++) {
                ranks[place] = countRank(place);
            }
        }

        private int countRank(int place) {
            int rank = 0;
            for (int other = 0; other < size; other++) {
                boolean equalBefore = other < place && values[other] == values[place];
                if (equalBefore || isAhead(values[other], values[place])) {
                    rank++;
                }
            }
            return rank;
        }

        int placeOfRank(int rank) {
            for (int place = 0; place < size; place++) {
                if (ranks[place] == rank) {
                    return place;
                }
            }
            return NONE;
        }

        int brokenCount() {
            return Long.bitCount(brokenSet());
        }

        long brokenSet() {
            long set = 0;
            for (int place = 0; place < size; place++) {
                if (isBroken(place)) {
                    set |= 1L << place;
                }
            }
            return set;
        }

        int inversionsOf(int place) {
            int count = 0;
            for (int other = 0; other < place; other++) {
                if (isAhead(values[place], values[other])) {
                    count++;
                }
            }
            for (int other = place + 1; other < size; other++) {
                if (isAhead(values[other], values[place])) {
                    count++;
                }
            }
            return count;
        }

        int inversions() {
            int ends = 0;
            for (int place = 0; place < size; place++) {
                ends += inversionsOf(place);
            }
            return ends / 2;
        }

        int falls() {
            int count = 0;
            for (int place = 0; place < size; place++) {
                if (isFall(place)) {
                    count++;
                }
            }
            return count;
        }

        int greatestDistance() {
            int greatest = 0;
            for (int place = 0; place < size; place++) {
                greatest = Math.max(greatest, Math.abs(distance(place)));
            }
            return greatest;
        }

        int mendFully() {
            int done = 0;
            while (done < MOST_STEPS && mendOnce() != NONE) {
                done++;
            }
            return done;
        }

        /** Does a step of mending; returns the lower place, NONE if the row is in bound. */
        int mendOnce() {
            int worst = worstPlace();
            int lower = worst == NONE ? NONE : fallNearest(worst);
            if (lower != NONE) {
                swapElements(lower);
                steps++;
            }
            return lower;
        }

        private int worstPlace() {
            int worst = NONE;
            int greatest = bound;
            for (int place = 0; place < size; place++) {
                int away = Math.abs(distance(place));
                if (away > greatest) {
                    greatest = away;
                    worst = place;
                }
            }
            return worst;
        }

        private int fallNearest(int place) {
            if (distance(place) > 0) {
                for (int lower = place - 1; lower >= 0; lower--) {
                    if (isFall(lower)) {
                        return lower;
                    }
                }
            } else {
                for (int lower = place; lower < size; lower++) {
                    if (isFall(lower)) {
                        return lower;
                    }
                }
            }
            return NONE;
        }
    }

    /** One search: what it came to stays here until the next one. */
    private static final class Search {
        private int place;
        private int looks;
        private int low;
        private int high;

        void lookFor(Row row, long value) {
            place = NONE;
            looks = 0;
            low = 0;
            high = row.size;
            narrow(row, value);
            if (place == NONE) {
                lookOneByOne(row, value);
            } else {
                low = NONE;
                high = NONE;
            }
        }

        // Each look here takes at least one place off the window.
        private void narrow(Row row, long value) {
            int width = 2 * row.bound;
            while (looks < MOST_ELEMENTS && place == NONE && high - low > 2 * width + 2) {
                int middle = (low + high) / 2;
                if (!row.isPlace(middle)) {
                    return;
                }
                looks++;
                if (row.values[middle] == value) {
                    place = middle;
                } else if (row.isAhead(row.values[middle], value)) {
                    low = Math.max(low, middle - width);
                } else {
                    high = Math.min(high, middle + width + 1);
                }
            }
        }

        private void lookOneByOne(Row row, long value) {
            for (int next = low; next < high && row.isPlace(next); next++) {
                looks++;
                if (row.values[next] == value) {
                    place = next;
                    return;
                }
            }
        }
    }

    /** The undo stack: a ring whose oldest state gives way to the newest. */
    private static final class History {
        private final Row[] states = new Row[MOST_SAVED];
        private int oldest;
        private int count;

        History() {
            for (int i = 0; i < MOST_SAVED; i++) {
                states[i] = new Row();
            }
        }

        void save(Row row) {
            states[(oldest + count) % MOST_SAVED].copyFrom(row);
            if (count < MOST_SAVED) {
                count++;
            } else {
                oldest = (oldest + 1) % MOST_SAVED;
            }
        }

        void restoreLatest(Row row) {
            if (count == 0) {
                return;
            }
            count--;
            row.copyFrom(states[(oldest + count) % MOST_SAVED]);
        }
    }

    /** The words of commands, each with the numbers that follow it: a plain one, then a value. */
    private enum Word {
        ADD("add", false, true),
        PUT("put", true, true),
        DEL("del", true, false),
        SET("set", true, true),
        SWAP("swap", true, false),
        BOUND("bound", true, false),
        MEND("mend", false, false);

        private static final Word[] ALL = values();

        private final String letters;
        private final boolean hasNumber;
        private final boolean hasValue;

        Word(String letters, boolean hasNumber, boolean hasValue) {
            this.letters = letters;
            this.hasNumber = hasNumber;
            this.hasValue = hasValue;
        }
    }

    /** The command text and the reading of it, a command at a time. */
    private static final class CommandText {
        // No byte of a text, so that nothing that is looked for is found behind its end.
        private static final int END = -1;

        private final byte[] bytes = new byte[MOST_BYTES];
        private int length;
        // The next byte to read; where reading fails, this is the fault.
        private int next;
        private int amount;
        private Word word;
        private int number;
        private long value;

        boolean isFull() {
            return length >= MOST_BYTES;
        }

        void addByte(int code) {
            if (!isFull()) {
                bytes[length] = (byte) code;
                length++;
            }
        }

        /** Returns the fault of the text; NONE if it has none. */
        int findFault() {
            rewind();
            for (int i = 0; i < MOST_BYTES && hasMore(); i++) {
                if (!readCommand()) {
                    return next;
                }
            }
            return NONE;
        }

        void rewind() {
            next = 0;
        }

        boolean hasMore() {
            skipSpaces();
            return next < length;
        }

        boolean readCommand() {
            int start = next;
            skipLetters();
            word = wordBetween(start, next);
            if (word == null) {
                next = start;
                return false;
            }
            if (word.hasNumber && !readAmount(false)) {
                return false;
            }
            number = amount;
            if (word.hasValue && !readAmount(true)) {
                return false;
            }
            value = amount;
            skipSpaces();
            return readByte(';');
        }

        private Word wordBetween(int start, int end) {
            for (int i = 0; i < Word.ALL.length; i++) {
                if (isBetween(Word.ALL[i].letters, start, end)) {
                    return Word.ALL[i];
                }
            }
            return null;
        }

        private boolean isBetween(String letters, int start, int end) {
            if (letters.length() != end - start) {
                return false;
            }
            for (int i = 0; i < letters.length(); i++) {
                if (byteAt(start + i) != letters.charAt(i)) {
                    return false;
                }
            }
            return true;
        }

        private boolean readAmount(boolean signed) {
            if (byteAt(next) != ' ') {
                return false;
            }
            skipSpaces();
            boolean negative = signed && readByte('-');
            amount = 0;
            int digits = 0;
            while (digits < MOST_DIGITS && isDigit(byteAt(next))) {
                amount = 10 * amount + byteAt(next) - '0';
                next++;
                digits++;
            }
            if (negative) {
                amount = -amount;
            }
            return digits > 0;
        }

        private boolean readByte(int wanted) {
            if (byteAt(next) != wanted) {
                return false;
            }
            next++;
            return true;
        }

        private void skipSpaces() {
            while (next < length && byteAt(next) == ' ') {
                next++;
            }
        }

        private void skipLetters() {
            while (next < length && isLetter(byteAt(next))) {
                next++;
            }
        }

        private int byteAt(int index) {
            return index >= 0 && index < length && index < MOST_BYTES ? bytes[index] : END;
        }

        private static boolean isLetter(int code) {
            return code >= 'a' && code <= 'z';
        }

        private static boolean isDigit(int code) {
            return code >= '0' && code <= '9';
        }
    }
}

import java.util.NoSuchElementException;

/** Queues whose versions last: each push and each pop makes a new version of one that is there. */
public final class SteadyQueues {
    public static final int SYNTAX_ERROR = -2;
    public static final int OUT_OF_RANGE = -3;
    public static final int TOO_MANY = -4;
    public static final int EMPTY = -5;

    private static final int NONE = -1;
    private static final int MOST_VERSIONS = 64;
    private static final int MOST_VALUE = 99;
    private static final int LEAST_PACE = 2;
    private static final int MOST_PACE = 4;
    private static final int BUFFER_BYTES = 500;
    private static final int INTS_A_CALL = 5;
    private static final int BYTES_AN_INT = 4;
    private static final int UNDO_LIMIT = 8;
    // One book holds the data of now, UNDO_LIMIT those before; one more is free, so that a load
    // that fails has spoilt none of them.
    private static final int BOOKS = UNDO_LIMIT + 2;
    private static final int STATE_NUMBERS = 10;
    private static final int STATE_UNDOABLE = 8;
    private static final int VERSION_NUMBERS = 11;
    private static final int WORK_NUMBERS = 4;
    private static final int LISTS = 7;

    private static final int IDLE = 0;
    private static final int REVERSING = 1;
    private static final int APPENDING = 2;
    private static final int DONE = 3;

    private final byte[] buffer = new byte[BUFFER_BYTES];
    private final SetupReader reader = new SetupReader();
    private final Book[] books = new Book[BOOKS];
    private final OtherQueue otherQueue = new OtherQueue();
    private final int[] row = new int[MOST_VERSIONS];
    private final int[] otherRow = new int[MOST_VERSIONS];
    private int bufferLength = 0;
    private int offsetOfError = NONE;
    private int current = 0;
    private int undoable = 0;

    public SteadyQueues() {
        Version root = new Version(null, NONE);
        for (int i = 0; i < BOOKS; i++) {
            books[i] = new Book(root);
        }
    }

    public int append(int w0, int w1, int w2, int w3, int w4) {
        if (bufferLength + INTS_A_CALL * BYTES_AN_INT > BUFFER_BYTES) {
            return -1;
        }
        addBytes(w0);
        addBytes(w1);
        addBytes(w2);
        addBytes(w3);
        addBytes(w4);
        return bufferLength;
    }

    public int load(int length) throws IllegalArgumentException {
        if (length < 0 || length > bufferLength) {
            throw new IllegalArgumentException("no such length");
        }
        bufferLength = 0;
        Book draft = books[following(current)];
        draft.restart();
        int error = reader.read(buffer, length, draft);
        offsetOfError = reader.offsetOfError;
        if (error != 0) {
            return error;
        }
        keepDraft();
        return draft.count;
    }

    public int errorOffset() {
        return offsetOfError;
    }

    public int state(int what) throws IllegalArgumentException {
        if (what < 0 || what >= STATE_NUMBERS) {
            throw new IllegalArgumentException("no such number");
        }
        return what == STATE_UNDOABLE ? undoable : books[current].numberOfAll(what);
    }

    public int version(int version, int what) throws IndexOutOfBoundsException, IllegalArgumentException {
        needVersion(version);
        if (what < 0 || what >= VERSION_NUMBERS) {
            throw new IllegalArgumentException("no such number");
        }
        return books[current].numberOfOne(version, what);
    }

    public int value(int version, int list, int place) throws IndexOutOfBoundsException, IllegalArgumentException {
        Version asked = needVersion(version);
        if (list < 0 || list >= LISTS) {
            throw new IllegalArgumentException("no such list");
        }
        if (list > 0) {
            return Cell.valueAt(asked.listOf(list), place);
        }
        int count = asked.valuesInto(row);
        return place >= 0 && place < count ? row[place] : NONE;
    }

    public int first(int version) throws IndexOutOfBoundsException, NoSuchElementException {
        Version asked = needVersion(version);
        if (asked.valuesInto(row) == 0) {
            throw new NoSuchElementException("no value");
        }
        return row[0];
    }

    public int find(int version, int value) throws IndexOutOfBoundsException {
        int count = needVersion(version).valuesInto(row);
        for (int i = 0; i < count; i++) {
            if (row[i] == value) {
                return i;
            }
        }
        return NONE;
    }

    public boolean alike(int version, int other) throws IndexOutOfBoundsException {
        Version one = needVersion(version);
        Version another = needVersion(other);
        return sameRows(one.valuesInto(row), another.valuesInto(otherRow));
    }

    public int common(int version, int other) throws IndexOutOfBoundsException {
        Version one = needVersion(version);
        Version another = needVersion(other);
        for (Version from = one; from != null; from = from.parent) {
            if (another.wasMadeFrom(from)) {
                return books[current].indexOf(from);
            }
        }
        return 0;
    }

    public int work(int version, int what) throws IndexOutOfBoundsException, IllegalArgumentException {
        Version asked = needVersion(version);
        if (what < 0 || what >= WORK_NUMBERS) {
            throw new IllegalArgumentException("no such number");
        }
        if (what == 0) {
            return asked.stepsOnWay();
        }
        if (what == 1) {
            return asked.mostStepsOnWay();
        }
        otherQueue.go(row, asked.wayInto(row));
        return what == 2 ? otherQueue.steps : otherQueue.mostSteps;
    }

    public int idleIn(int version) throws IndexOutOfBoundsException {
        Version asked = needVersion(version);
        if (asked.turn.kind == IDLE) {
            return 0;
        }
        Version trial = new Version(asked, NONE);
        int length = asked.length();
        for (int pops = 1; pops <= length; pops++) {
            trial.takeFirst();
            trial.settle(books[current].pace);
            if (trial.turn.kind == IDLE) {
                return pops;
            }
        }
        return NONE;
    }

    public int gap() {
        Book book = books[current];
        int different = 0;
        for (int i = 0; i < book.count; i++) {
            Version asked = book.versions[i];
            if (!sameRows(asked.valuesInto(row), asked.valuesByWayInto(otherRow))) {
                different++;
            }
        }
        return different;
    }

    public int ranked(int place) throws NoSuchElementException {
        Book book = books[current];
        for (int i = 0; i < book.count; i++) {
            if (book.longerAhead(i) == place) {
                return i;
            }
        }
        throw new NoSuchElementException("no such place");
    }

    public float meanSteps() {
        Book book = books[current];
        int made = book.count - 1;
        if (made <= 0) {
            return 0;
        }
        return (float) book.allSteps() / (float) made;
    }

    public int push(int version, int value) throws IndexOutOfBoundsException, IllegalArgumentException, IllegalStateException {
        needVersion(version);
        if (value < 0 || value > MOST_VALUE) {
            throw new IllegalArgumentException("no such value");
        }
        needRoom();
        int made = freshDraft().makeByPush(version, value);
        keepDraft();
        return made;
    }

    public int pop(int version) throws IndexOutOfBoundsException, IllegalStateException {
        if (needVersion(version).length() == 0) {
            throw new IllegalStateException("no value");
        }
        needRoom();
        int made = freshDraft().makeByPop(version);
        keepDraft();
        return made;
    }

    public int drop(int version) throws IndexOutOfBoundsException, IllegalStateException {
        Version asked = needVersion(version);
        if (version == 0 || books[current].childrenOf(asked) > 0) {
            throw new IllegalStateException("not to be dropped");
        }
        Book draft = freshDraft();
        draft.remove(version);
        keepDraft();
        return draft.count;
    }

    public int rule(int pace) throws IllegalArgumentException {
        if (pace < LEAST_PACE || pace > MOST_PACE) {
            throw new IllegalArgumentException("no such pace");
        }
        int before = books[current].pace;
        freshDraft().pace = pace;
        keepDraft();
        return before;
    }

    public int undo() {
        if (undoable == 0) {
            return -1;
        }
        current = (current + BOOKS - 1) % BOOKS;
        undoable--;
        return undoable;
    }

    public long checksum() {
        Book book = books[current];
        long sum = 0;
        for (int what = 0; what < STATE_NUMBERS; what++) {
            if (what != STATE_UNDOABLE) {
                sum = mixed(sum, book.numberOfAll(what));
            }
        }
        for (int i = 0; i < book.count; i++) {
            for (int what = 0; what < VERSION_NUMBERS; what++) {
                sum = mixed(sum, book.numberOfOne(i, what));
            }
            sum = mixedWithLists(sum, book.versions[i]);
        }
        return sum;
    }

    private long mixedWithLists(long start, Version version) {
        long sum = start;
        int count = version.valuesInto(row);
        for (int i = 0; i < count; i++) {
            sum = mixed(sum, row[i]);
        }
        for (int list = 1; list < LISTS; list++) {
            for (Cell cell = version.listOf(list); cell != null; cell = cell.next) {
                sum = mixed(sum, cell.value);
            }
            sum = mixed(sum, NONE);
        }
        return sum;
    }

    private static long mixed(long sum, int number) {
        return 31 * sum + number;
    }

    private void addBytes(int word) {
        for (int shift = 24; shift >= 0; shift -= 8) {
            if (bufferLength < BUFFER_BYTES) {
                buffer[bufferLength] = (byte) (word >> shift);
                bufferLength++;
            }
        }
    }

    private Version needVersion(int index) {
        Book book = books[current];
        if (index < 0 || index >= book.count) {
            throw new IndexOutOfBoundsException("no such version");
        }
        return book.versions[index];
    }

    private void needRoom() {
        if (books[current].count >= MOST_VERSIONS) {
            throw new IllegalStateException("too many versions");
        }
    }

    private boolean sameRows(int count, int otherCount) {
        if (count != otherCount) {
            return false;
        }
        for (int i = 0; i < count; i++) {
            if (row[i] != otherRow[i]) {
                return false;
            }
        }
        return true;
    }

    private static int following(int book) {
        return (book + 1) % BOOKS;
    }

    private Book freshDraft() {
        Book draft = books[following(current)];
        draft.copyFrom(books[current]);
        return draft;
    }

    private void keepDraft() {
        current = following(current);
        if (undoable < UNDO_LIMIT) {
            undoable++;
        }
    }

    /** A list's first value and the list behind it; null is the list without values. Never changed, so lists share cells. */
    private static final class Cell {
        final int value;
        final Cell next;

        Cell(int value, Cell next) {
            this.value = value;
            this.next = next;
        }

        static Cell behindFirst(Cell list) {
            return list == null ? null : list.next;
        }

        static int sizeOf(Cell list) {
            int size = 0;
            for (Cell cell = list; cell != null; cell = cell.next) {
                size++;
            }
            return size;
        }

        static int valueAt(Cell list, int place) {
            int passed = 0;
            for (Cell cell = list; cell != null; cell = cell.next) {
                if (passed == place) {
                    return cell.value;
                }
                passed++;
            }
            return NONE;
        }

        /** Writes the first values into the row from a place on, at most as many as told; returns the place behind them. */
        static int writeFirst(Cell list, int most, int[] row, int from) {
            int place = from;
            for (Cell cell = list; cell != null; cell = cell.next) {
                if (place - from < most && place < row.length) {
                    row[place] = cell.value;
                    place++;
                }
            }
            return place;
        }

        /** Writes all values into the row from a place on, the last one first; returns the place behind them. */
        static int writeReversed(Cell list, int[] row, int from) {
            int end = from + sizeOf(list);
            int place = end;
            for (Cell cell = list; cell != null; cell = cell.next) {
                place--;
                if (place >= 0 && place < row.length) {
                    row[place] = cell.value;
                }
            }
            return end < row.length ? end : row.length;
        }
    }

    /** The turning of a rear, as far as it has come. */
    private static final class Turn {
        int kind = IDLE;
        int ok = 0;
        Cell oldFront = null;
        Cell newFront = null;
        Cell oldRear = null;
        Cell newRear = null;

        void copyFrom(Turn other) {
            kind = other.kind;
            ok = other.ok;
            oldFront = other.oldFront;
            newFront = other.newFront;
            oldRear = other.oldRear;
            newRear = other.newRear;
        }

        void begin(Cell front, Cell rear) {
            kind = REVERSING;
            ok = 0;
            oldFront = front;
            newFront = null;
            oldRear = rear;
            newRear = null;
        }

        /** Returns whether the step changed anything. */
        boolean step() {
            if (kind == REVERSING && oldFront != null && oldRear != null) {
                newFront = new Cell(oldFront.value, newFront);
                newRear = new Cell(oldRear.value, newRear);
                oldFront = oldFront.next;
                oldRear = oldRear.next;
                ok++;
                return true;
            }
            if (kind == REVERSING && oldFront == null && oldRear != null && oldRear.next == null) {
                newRear = new Cell(oldRear.value, newRear);
                oldRear = null;
                kind = APPENDING;
                return true;
            }
            if (kind == APPENDING && ok == 0) {
                finish();
                return true;
            }
            if (kind == APPENDING && ok > 0 && newFront != null) {
                newRear = new Cell(newFront.value, newRear);
                newFront = newFront.next;
                ok--;
                return true;
            }
            return false;
        }

        /** Tells the turn that the first value of the front is gone. */
        void loseFirst() {
            if (kind == REVERSING) {
                ok--;
            } else if (kind == APPENDING && ok > 0) {
                ok--;
            } else if (kind == APPENDING && ok == 0) {
                newRear = Cell.behindFirst(newRear);
                finish();
            }
        }

        private void finish() {
            kind = DONE;
            newFront = null;
        }

        /** Ends a turn that is done; returns the list that is the front now. */
        Cell endWithList() {
            Cell list = newRear;
            kind = IDLE;
            newRear = null;
            return list;
        }
    }

    /** A version; it changes only while it is made (or if it is a trial that no book holds). */
    private static final class Version {
        final Version parent;
        final int pushed;
        final int depth;
        final Turn turn = new Turn();
        Cell front = null;
        Cell rear = null;
        int frontLength = 0;
        int rearLength = 0;
        int steps = 0;

        Version(Version parent, int pushed) {
            this.parent = parent;
            this.pushed = pushed;
            if (parent == null) {
                depth = 0;
                return;
            }
            depth = parent.depth + 1;
            turn.copyFrom(parent.turn);
            front = parent.front;
            rear = parent.rear;
            frontLength = parent.frontLength;
            rearLength = parent.rearLength;
        }

        int length() {
            return frontLength + rearLength;
        }

        void putLast(int value) {
            rear = new Cell(value, rear);
            rearLength++;
        }

        void takeFirst() {
            front = Cell.behindFirst(front);
            frontLength--;
            turn.loseFirst();
        }

        void settle(int pace) {
            if (rearLength > frontLength) {
                turn.begin(front, rear);
                frontLength += rearLength;
                rearLength = 0;
                rear = null;
            }
            steps = 0;
            while (steps < pace && turn.step()) {
                steps++;
            }
            if (turn.kind == DONE) {
                front = turn.endWithList();
            }
        }

        Cell listOf(int list) {
            switch (list) {
                case 1: return front;
                case 2: return rear;
                case 3: return turn.oldFront;
                case 4: return turn.newFront;
                case 5: return turn.oldRear;
                case 6: return turn.newRear;
                default: return null;
            }
        }

        /** Writes the values by the lists into the row; returns how many they are. */
        int valuesInto(int[] row) {
            // While the turn is appending, the front's values behind the first ok ones stand in new rear, too.
            int fromFront = turn.kind == APPENDING ? turn.ok : row.length;
            int count = Cell.writeFirst(front, fromFront, row, 0);
            count = Cell.writeReversed(turn.oldRear, row, count);
            count = Cell.writeFirst(turn.newRear, row.length, row, count);
            return Cell.writeReversed(rear, row, count);
        }

        /** Writes what was pushed on the way from version 0 into the row, NONE for a pop; returns how many these are. */
        int wayInto(int[] row) {
            for (Version on = this; on.parent != null; on = on.parent) {
                int place = on.depth - 1;
                if (place >= 0 && place < row.length) {
                    row[place] = on.pushed;
                }
            }
            return depth < row.length ? depth : row.length;
        }

        /** Writes the values by the pushes and pops on the way into the row; returns how many they are. */
        int valuesByWayInto(int[] row) {
            int length = wayInto(row);
            int pops = 0;
            for (int i = 0; i < length; i++) {
                if (row[i] == NONE) {
                    pops++;
                }
            }
            int count = 0;
            for (int i = 0; i < length; i++) {
                if (row[i] != NONE) {
                    if (pops > 0) {
                        pops--;
                    } else {
                        row[count] = row[i];
                        count++;
                    }
                }
            }
            return count;
        }

        boolean wasMadeFrom(Version other) {
            for (Version on = this; on != null; on = on.parent) {
                if (on == other) {
                    return true;
                }
            }
            return false;
        }

        int stepsOnWay() {
            int sum = 0;
            for (Version on = this; on != null; on = on.parent) {
                sum += on.steps;
            }
            return sum;
        }

        int mostStepsOnWay() {
            int most = 0;
            for (Version on = this; on != null; on = on.parent) {
                most = Math.max(most, on.steps);
            }
            return most;
        }
    }

    /** All data that a change can change. */
    private static final class Book {
        final Version[] versions = new Version[MOST_VERSIONS];
        int count = 1;
        int pace = LEAST_PACE;
        int dropped = 0;

        Book(Version root) {
            versions[0] = root;
        }

        /** Makes the data as by the text "queue;". Version 0 is the same one in all books. */
        void restart() {
            count = 1;
            pace = LEAST_PACE;
            dropped = 0;
        }

        void copyFrom(Book other) {
            for (int i = 0; i < other.count; i++) {
                versions[i] = other.versions[i];
            }
            count = other.count;
            pace = other.pace;
            dropped = other.dropped;
        }

        int makeByPush(int parent, int value) {
            Version made = new Version(versions[parent], value);
            made.putLast(value);
            made.settle(pace);
            return add(made);
        }

        int makeByPop(int parent) {
            Version made = new Version(versions[parent], NONE);
            made.takeFirst();
            made.settle(pace);
            return add(made);
        }

        private int add(Version made) {
            versions[count] = made;
            count++;
            return count - 1;
        }

        void remove(int index) {
            count--;
            for (int i = index; i < count; i++) {
                versions[i] = versions[i + 1];
            }
            dropped++;
        }

        int indexOf(Version version) {
            for (int i = 0; i < count; i++) {
                if (versions[i] == version) {
                    return i;
                }
            }
            return NONE;
        }

        int childrenOf(Version parent) {
            int children = 0;
            for (int i = 0; i < count; i++) {
                if (versions[i].parent == parent) {
                    children++;
                }
            }
            return children;
        }

        /** Counts the versions that stand ahead of one if the longest come first. */
        int longerAhead(int index) {
            int length = versions[index].length();
            int ahead = 0;
            for (int i = 0; i < count; i++) {
                int other = versions[i].length();
                if (other > length || other == length && i < index) {
                    ahead++;
                }
            }
            return ahead;
        }

        int numberOfAll(int what) {
            switch (what) {
                case 0: return count;
                case 1: return pace;
                case 2: return withoutChildren();
                case 3: return turning();
                case 4: return greatestDepth();
                case 5: return allSteps();
                case 6: return mostSteps();
                case 7: return withoutValues();
                case 9: return dropped;
                default: return NONE;
            }
        }

        int numberOfOne(int index, int what) {
            Version version = versions[index];
            switch (what) {
                case 0: return indexOf(version.parent);
                case 1: return version.pushed;
                case 2: return version.depth;
                case 3: return version.length();
                case 4: return version.frontLength;
                case 5: return version.rearLength;
                case 6: return version.turn.kind;
                case 7: return version.turn.ok;
                case 8: return version.steps;
                case 9: return childrenOf(version);
                case 10: return Cell.sizeOf(version.front);
                default: return NONE;
            }
        }

        int allSteps() {
            int sum = 0;
            for (int i = 0; i < count; i++) {
                sum += versions[i].steps;
            }
            return sum;
        }

        private int mostSteps() {
            int most = 0;
            for (int i = 0; i < count; i++) {
                most = Math.max(most, versions[i].steps);
            }
            return most;
        }

        private int withoutChildren() {
            int number = 0;
            for (int i = 0; i < count; i++) {
                if (childrenOf(versions[i]) == 0) {
                    number++;
                }
            }
            return number;
        }

        private int turning() {
            int number = 0;
            for (int i = 0; i < count; i++) {
                if (versions[i].turn.kind != IDLE) {
                    number++;
                }
            }
            return number;
        }

        private int greatestDepth() {
            int greatest = 0;
            for (int i = 0; i < count; i++) {
                greatest = Math.max(greatest, versions[i].depth);
            }
            return greatest;
        }

        private int withoutValues() {
            int number = 0;
            for (int i = 0; i < count; i++) {
                if (versions[i].length() == 0) {
                    number++;
                }
            }
            return number;
        }
    }

    /** The queue that turns only at need: how many values its front and its rear have, and its work. */
    private static final class OtherQueue {
        int steps = 0;
        int mostSteps = 0;
        private int inFront = 0;
        private int inRear = 0;

        /** Does the pushes and pops of a way on an empty queue, and counts the work anew. */
        void go(int[] way, int length) {
            steps = 0;
            mostSteps = 0;
            inFront = 0;
            inRear = 0;
            for (int i = 0; i < length; i++) {
                int done = way[i] == NONE ? takeFirst() : putLast();
                steps += done;
                mostSteps = Math.max(mostSteps, done);
            }
        }

        private int putLast() {
            inRear++;
            return 1;
        }

        private int takeFirst() {
            int moved = 0;
            if (inFront == 0) {
                moved = inRear;
                inFront = inRear;
                inRear = 0;
            }
            inFront--;
            return moved + 1;
        }
    }

    /** Reads a setup text into a book, token by token, up to the first error. */
    private static final class SetupReader {
        private static final int END = 0;
        private static final int STRANGE = 1;
        private static final int NUMBER = 2;
        private static final int SEMICOLON = 3;
        private static final int QUEUE = 4;
        private static final int PUSH = 5;
        private static final int POP = 6;
        private static final int PACE = 7;
        // Above all that a text may name; a longer number stays here, so that it cannot overflow.
        private static final int HUGE = 1000;

        int offsetOfError = NONE;
        private byte[] text = null;
        private int length = 0;
        private Book book = null;
        private int error = 0;
        private int at = 0;
        private int start = 0;
        private int kind = END;
        private int number = 0;
        private boolean paceMayCome = true;

        /** Returns the code of the first error, or 0. The book has to be as by the text "queue;". */
        int read(byte[] bytes, int byteCount, Book into) {
            text = bytes;
            length = Math.min(byteCount, bytes.length);
            book = into;
            error = 0;
            offsetOfError = NONE;
            at = 0;
            paceMayCome = true;
            readToken();
            boolean fits = pass(QUEUE) && pass(SEMICOLON);
            // A statement takes bytes, so there are fewer of them than bytes.
            for (int i = 0; i < length && fits && kind != END; i++) {
                if (kind == PUSH) {
                    fits = readPush();
                } else if (kind == POP) {
                    fits = readPop();
                } else if (kind == PACE && paceMayCome) {
                    fits = readPace();
                } else {
                    fits = fail(SYNTAX_ERROR);
                }
                fits = fits && pass(SEMICOLON);
            }
            return error;
        }

        private boolean readPush() {
            paceMayCome = false;
            readToken();
            if (!seeNumber(0, book.count - 1)) {
                return false;
            }
            int version = number;
            readToken();
            for (int i = 0; i < MOST_VERSIONS && (i == 0 || kind == NUMBER); i++) {
                if (!seeNumber(0, MOST_VALUE)) {
                    return false;
                }
                if (book.count >= MOST_VERSIONS) {
                    return fail(TOO_MANY);
                }
                version = book.makeByPush(version, number);
                readToken();
            }
            return true;
        }

        private boolean readPop() {
            paceMayCome = false;
            readToken();
            if (!seeNumber(0, book.count - 1)) {
                return false;
            }
            int version = number;
            readToken();
            if (!seeNumber(1, MOST_VERSIONS)) {
                return false;
            }
            int pops = number;
            if (book.count + pops > MOST_VERSIONS) {
                return fail(TOO_MANY);
            }
            if (pops > book.versions[version].length()) {
                return fail(EMPTY);
            }
            for (int i = 0; i < pops; i++) {
                version = book.makeByPop(version);
            }
            readToken();
            return true;
        }

        private boolean readPace() {
            paceMayCome = false;
            readToken();
            if (!seeNumber(LEAST_PACE, MOST_PACE)) {
                return false;
            }
            book.pace = number;
            readToken();
            return true;
        }

        private boolean pass(int wanted) {
            if (kind != wanted) {
                return fail(SYNTAX_ERROR);
            }
            readToken();
            return true;
        }

        private boolean seeNumber(int least, int most) {
            if (kind != NUMBER) {
                return fail(SYNTAX_ERROR);
            }
            return number >= least && number <= most || fail(OUT_OF_RANGE);
        }

        private boolean fail(int code) {
            error = code;
            offsetOfError = start;
            return false;
        }

        private void readToken() {
            while (at < length && text[at] == ' ') {
                at++;
            }
            start = at;
            if (at >= length) {
                kind = END;
            } else if (isDigit(text[at])) {
                readNumber();
            } else if (isLetter(text[at])) {
                readWord();
            } else {
                kind = text[at] == ';' ? SEMICOLON : STRANGE;
                at++;
            }
        }

        private void readNumber() {
            kind = NUMBER;
            number = 0;
            while (at < length && isDigit(text[at])) {
                number = Math.min(HUGE, 10 * number + text[at] - '0');
                at++;
            }
        }

        private void readWord() {
            while (at < length && isLetter(text[at])) {
                at++;
            }
            if (isWord("queue")) {
                kind = QUEUE;
            } else if (isWord("push")) {
                kind = PUSH;
            } else if (isWord("pop")) {
                kind = POP;
            } else {
                kind = isWord("pace") ? PACE : STRANGE;
            }
        }

        private boolean isWord(String word) {
            if (at - start != word.length()) {
                return false;
            }
            for (int i = 0; i < word.length(); i++) {
                if (text[start + i] != word.charAt(i)) {
                    return false;
                }
            }
            return true;
        }

        private static boolean isDigit(byte sign) {
            return sign >= '0' && sign <= '9';
        }

        private static boolean isLetter(byte sign) {
            return sign >= 'a' && sign <= 'z';
        }
    }
}

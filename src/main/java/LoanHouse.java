/**
 * A house of loans with some branches, copies of titles, readers, holds and days.
 * The document (../shared/DOC.md) says what each call answers; words here are its words.
 */
public final class LoanHouse {
    public static final int NONE = -1, NEVER = 99999, UNKNOWN = -1000000001, OUTSIDE = -1000000002, NOT = -1000000003, FULL = -1000000004;

    private static final int BRANCHES = 4, TITLES = 6, READERS = 10, NEEDS = 4, WEEK = 7;
    private static final int MOST_COPIES = 16, MOST_HOLDS = 12, MOST_OUT = 3, MOST_PAST = 8, IMAGES = 2;
    private static final int MOST_DAYS = 30, LAST_DAY = 9999, MOST_LOTS = 20, KINDS_OF_LOTS = 4, MOST_SEED = 999999;

    /** What a copy is, as copyOf() and lose() tell it. */
    private static final int IN = 0, OUT = 1, KEPT = 2, ON_ITS_WAY = 3, LOST = 4;

    /** What a hold is, as holdOf() tells it. */
    private static final int WAITS = 0, ON_THE_WAY = 1, READY = 2;

    /** What the looks for a refusal answer when there is none. */
    private static final int FREE = 0;

    private final House house = new House();
    private final Pictures past = new Pictures(MOST_PAST);
    private final Pictures images = new Pictures(IMAGES);
    private final Lots lots = new Lots();
    private int undoable;
    private int nextPast;

    public LoanHouse() {
    }

    // ---- copies

    public int copy(int title, int branch) {
        if (!isBelow(title, TITLES) || !isBelow(branch, BRANCHES)) {
            return UNKNOWN;
        }
        if (house.copies.count >= MOST_COPIES) {
            return FULL;
        }
        remember();
        return house.addCopy(title, branch);
    }

    public int lend(int copy, int reader) {
        int refusal = refusalToLend(copy, reader);
        if (refusal != FREE) {
            return refusal;
        }
        remember();
        return house.lendTo(copy, reader);
    }

    public int giveBack(int copy, int branch) {
        int refusal = refusalToTakeBack(copy, branch);
        if (refusal != FREE) {
            return refusal;
        }
        remember();
        return house.takeBack(copy, branch);
    }

    public int renew(int copy) {
        if (!isCopy(copy)) {
            return UNKNOWN;
        }
        if (house.copies.state(copy) != OUT || house.holds.rowLength(house.copies.title(copy)) > 0) {
            return NOT;
        }
        remember();
        return house.lendAgain(copy);
    }

    public int lose(int copy) {
        if (!isCopy(copy)) {
            return UNKNOWN;
        }
        if (house.copies.state(copy) == LOST) {
            return NOT;
        }
        remember();
        return house.loseCopy(copy);
    }

    // ---- holds, days

    public int hold(int reader, int title, int branch, int need) {
        int refusal = refusalToHold(reader, title, branch, need);
        if (refusal != FREE) {
            return refusal;
        }
        remember();
        return house.addHold(reader, title, branch, need);
    }

    public int giveUp(int hold) {
        int slot = house.holds.slotOf(hold);
        if (slot == NONE) {
            return UNKNOWN;
        }
        remember();
        return house.dropHold(slot);
    }

    public int pass(int n) {
        if (n < 1 || n > MOST_DAYS) {
            return OUTSIDE;
        }
        if (house.calendar.now + n > LAST_DAY) {
            return NOT;
        }
        remember();
        for (int day = 0; day < n; day++) {
            house.dayPasses();
        }
        return house.calendar.now;
    }

    public int set(int what, int v) {
        if (!Calendar.allows(what, v)) {
            return OUTSIDE;
        }
        remember();
        return house.calendar.change(what, v);
    }

    public int drift(int n, int seed) {
        if (n < 1 || n > MOST_LOTS || seed < 1 || seed > MOST_SEED) {
            return OUTSIDE;
        }
        remember();
        lots.begin(seed);
        for (int lot = 0; lot < n; lot++) {
            switch (lots.below(KINDS_OF_LOTS)) {
                case 0: drawHold(); break;
                case 1: drawLending(); break;
                case 2: drawGivingBack(); break;
                // Only pass() has a last day; the document's passing of a day has none.
                default: house.dayPasses(); break;
            }
        }
        return house.calendar.now;
    }

    public int undo() {
        if (undoable <= 0) {
            return NOT;
        }
        undoable--;
        nextPast = Math.floorMod(nextPast - 1, MOST_PAST);
        past.show(nextPast, house);
        return undoable;
    }

    public int told(int what) {
        switch (what) {
            case 0: return house.calendar.now;
            case 1: return house.calendar.term;
            case 2: return house.calendar.patience;
            case 3: return house.calendar.closed;
            case 4: return house.copies.count;
            case 5: return house.copies.thatAre(IN);
            case 6: return house.copies.thatAre(OUT);
            case 7: return house.copies.thatAre(KEPT);
            case 8: return house.copies.thatAre(ON_ITS_WAY);
            case 9: return house.copies.thatAre(LOST);
            case 10: return house.holds.count;
            case 11: return house.holds.waiting();
            case 12: return Integer.bitCount(house.trips);
            case 13: return house.copies.overdue(house.calendar.now);
            case 14: return house.calendar.isClosed(house.calendar.now) ? 1 : 0;
            case 15: return undoable;
            default: return OUTSIDE;
        }
    }

    public int copyOf(int copy, int what) {
        if (!isCopy(copy)) {
            return UNKNOWN;
        }
        switch (what) {
            case 0: return house.copies.title(copy);
            case 1: return house.copies.branch(copy);
            case 2: return house.copies.state(copy);
            case 3: return house.copies.whose(copy);
            case 4: return house.copies.day(copy);
            case 5: return house.copies.step(copy, house.calendar.now);
            default: return OUTSIDE;
        }
    }

    public int holdOf(int hold, int what) {
        int slot = house.holds.slotOf(hold);
        if (slot == NONE) {
            return UNKNOWN;
        }
        switch (what) {
            case 0: return house.holds.reader(slot);
            case 1: return house.holds.title(slot);
            case 2: return house.holds.branch(slot);
            case 3: return house.holds.need(slot);
            case 4: return house.holds.made(slot);
            case 5: return house.stateOfHold(slot);
            case 6: return house.holds.copyFor(slot);
            case 7: return house.holds.placeInRow(slot);
            case 8: return house.soon(slot);
            default: return OUTSIDE;
        }
    }

    public int titleOf(int title, int what) {
        if (!isBelow(title, TITLES)) {
            return UNKNOWN;
        }
        switch (what) {
            case 0: return house.copies.ofTitle(title);
            case 1: return house.copies.ofTitle(title) & house.copies.thatAre(IN);
            case 2: return house.holds.rowLength(title);
            case 3: return house.holds.number(house.holds.firstOfRow(title));
            case 4: return house.holds.longestWait(title, house.calendar.now);
            default: return OUTSIDE;
        }
    }

    public int readerOf(int reader, int what) {
        if (!isBelow(reader, READERS)) {
            return UNKNOWN;
        }
        switch (what) {
            case 0: return house.copies.outTo(reader);
            case 1: return house.holds.ofReader(reader);
            case 2: return house.copies.owedBy(reader, house.calendar.now);
            case 3: return house.copies.greatestStep(reader, house.calendar.now);
            case 4: return reader % BRANCHES;
            default: return OUTSIDE;
        }
    }

    // ---- images

    public int keep(int i) {
        if (!isBelow(i, IMAGES)) {
            return UNKNOWN;
        }
        images.take(i, house);
        undoable = 0;
        return house.calendar.now;
    }

    public int goBack(int i) {
        if (!isBelow(i, IMAGES)) {
            return UNKNOWN;
        }
        if (!images.has(i)) {
            return NOT;
        }
        images.show(i, house);
        undoable = 0;
        return house.calendar.now;
    }

    // ---- what deeds and lots share

    private void remember() {
        past.take(nextPast, house);
        nextPast = Math.floorMod(nextPast + 1, MOST_PAST);
        undoable = Math.min(undoable + 1, MOST_PAST);
    }

    private boolean isCopy(int copy) {
        return isBelow(copy, house.copies.count);
    }

    private int refusalToLend(int copy, int reader) {
        if (!isCopy(copy) || !isBelow(reader, READERS)) {
            return UNKNOWN;
        }
        if (!house.mayTake(copy, reader) || Integer.bitCount(house.copies.outTo(reader)) >= MOST_OUT) {
            return NOT;
        }
        return FREE;
    }

    private int refusalToTakeBack(int copy, int branch) {
        if (!isCopy(copy) || !isBelow(branch, BRANCHES)) {
            return UNKNOWN;
        }
        int state = house.copies.state(copy);
        return state == OUT || state == LOST ? FREE : NOT;
    }

    private int refusalToHold(int reader, int title, int branch, int need) {
        if (!isBelow(reader, READERS) || !isBelow(title, TITLES) || !isBelow(branch, BRANCHES)) {
            return UNKNOWN;
        }
        if (!isBelow(need, NEEDS)) {
            return OUTSIDE;
        }
        boolean hasOneOut = (house.copies.outTo(reader) & house.copies.ofTitle(title)) != 0;
        if (hasOneOut || house.holds.has(reader, title)) {
            return NOT;
        }
        return house.holds.count >= MOST_HOLDS ? FULL : FREE;
    }

    private void drawHold() {
        int reader = lots.below(READERS);
        int title = lots.below(TITLES);
        int branch = lots.below(BRANCHES);
        int need = lots.below(NEEDS);
        if (refusalToHold(reader, title, branch, need) == FREE) {
            house.addHold(reader, title, branch, need);
        }
    }

    private void drawLending() {
        if (house.copies.count == 0) {
            return;
        }
        int copy = lots.below(house.copies.count);
        int reader = lots.below(READERS);
        if (refusalToLend(copy, reader) == FREE) {
            house.lendTo(copy, reader);
        }
    }

    private void drawGivingBack() {
        if (house.copies.count == 0) {
            return;
        }
        int copy = lots.below(house.copies.count);
        int branch = lots.below(BRANCHES);
        if (refusalToTakeBack(copy, branch) == FREE) {
            house.takeBack(copy, branch);
        }
    }

    private static boolean isBelow(int number, int bound) {
        return 0 <= number && number < bound;
    }

    private static int way(int from, int to) {
        int apart = Math.abs(from - to);
        return Math.min(apart, BRANCHES - apart);
    }

    /** Numbers in rows; a cell that is not there answers NONE and takes nothing, so that no index goes astray. */
    private static final class Grid {
        private final int rows;
        private final int columns;
        private final int[] cells;

        Grid(int rows, int columns) {
            this.rows = Math.max(rows, 0);
            this.columns = Math.max(columns, 0);
            cells = new int[Math.max(this.rows * this.columns, 0)];
        }

        int at(int row, int column) {
            if (row < 0 || row >= rows || column < 0 || column >= columns) {
                return NONE;
            }
            return cells[row * columns + column];
        }

        void put(int row, int column, int value) {
            if (row < 0 || row >= rows || column < 0 || column >= columns) {
                return;
            }
            cells[row * columns + column] = value;
        }

        /** Rows behind move up, so that rows stay in the order in which they came. */
        void takeOut(int row) {
            if (0 <= row && row < rows) {
                int to = row * columns;
                int from = to + columns;
                System.arraycopy(cells, from, cells, to, cells.length - from);
            }
        }

        void become(Grid other) {
            System.arraycopy(other.cells, 0, cells, 0, Math.min(cells.length, other.cells.length));
        }
    }

    private static final class Copies {
        private static final int TITLE = 0, BRANCH = 1, STATE = 2, WHOSE = 3, DAY = 4, COLUMNS = 5;
        private static final int MOST_STEP = 4, FEE = 5;

        private final Grid grid = new Grid(MOST_COPIES, COLUMNS);
        private int count;

        int title(int copy) {
            return grid.at(copy, TITLE);
        }

        int branch(int copy) {
            return grid.at(copy, BRANCH);
        }

        int state(int copy) {
            return grid.at(copy, STATE);
        }

        /** The reader who has it or the number of the hold that it is for. */
        int whose(int copy) {
            return grid.at(copy, WHOSE);
        }

        /** Due, until or there, as its state wants. */
        int day(int copy) {
            return grid.at(copy, DAY);
        }

        int add(int title, int branch) {
            int copy = count;
            count++;
            grid.put(copy, TITLE, title);
            write(copy, branch, IN, NONE, NONE);
            return copy;
        }

        void write(int copy, int branch, int state, int whose, int day) {
            grid.put(copy, BRANCH, branch);
            grid.put(copy, STATE, state);
            grid.put(copy, WHOSE, whose);
            grid.put(copy, DAY, day);
        }

        int thatAre(int state) {
            int found = 0;
            for (int copy = 0; copy < count; copy++) {
                if (state(copy) == state) {
                    found |= 1 << copy;
                }
            }
            return found;
        }

        int ofTitle(int title) {
            int found = 0;
            for (int copy = 0; copy < count; copy++) {
                if (title(copy) == title) {
                    found |= 1 << copy;
                }
            }
            return found;
        }

        int outTo(int reader) {
            int found = 0;
            for (int copy = 0; copy < count; copy++) {
                if (isOutTo(copy, reader)) {
                    found |= 1 << copy;
                }
            }
            return found;
        }

        int overdue(int now) {
            int found = 0;
            for (int copy = 0; copy < count; copy++) {
                if (state(copy) == OUT && now > day(copy)) {
                    found |= 1 << copy;
                }
            }
            return found;
        }

        int step(int copy, int now) {
            if (state(copy) != OUT) {
                return NONE;
            }
            int late = now - day(copy);
            return late <= 0 ? 0 : Math.min(1 + (late - 1) / WEEK, MOST_STEP);
        }

        int owedBy(int reader, int now) {
            int owed = 0;
            for (int copy = 0; copy < count; copy++) {
                if (isOutTo(copy, reader)) {
                    owed += FEE * Math.max(now - day(copy), 0);
                }
            }
            return owed;
        }

        int greatestStep(int reader, int now) {
            int greatest = 0;
            for (int copy = 0; copy < count; copy++) {
                if (isOutTo(copy, reader)) {
                    greatest = Math.max(greatest, step(copy, now));
                }
            }
            return greatest;
        }

        /** Of the copies in: the one with the least way to a branch, NONE if none is in. */
        int nearestIn(int title, int branch) {
            int nearest = NONE;
            int least = BRANCHES;
            for (int copy = 0; copy < count; copy++) {
                if (title(copy) == title && state(copy) == IN && way(branch(copy), branch) < least) {
                    nearest = copy;
                    least = way(branch(copy), branch);
                }
            }
            return nearest;
        }

        /** The day at a place among the days, in order, on which copies of a title could be in. */
        int dayAtPlace(int title, int place, int now) {
            for (int copy = 0; copy < count; copy++) {
                if (placeOfDay(copy, title, now) == place) {
                    return dayIn(copy, title, now);
                }
            }
            return NEVER;
        }

        private int placeOfDay(int copy, int title, int now) {
            int day = dayIn(copy, title, now);
            int ahead = 0;
            for (int other = 0; other < count; other++) {
                int otherDay = dayIn(other, title, now);
                if (otherDay < day || otherDay == day && other < copy) {
                    ahead++;
                }
            }
            return ahead;
        }

        /** NEVER lies behind all days, so copies without a day stand last in their order. */
        private int dayIn(int copy, int title, int now) {
            if (title(copy) != title) {
                return NEVER;
            }
            switch (state(copy)) {
                case IN: return now;
                case OUT: return Math.max(day(copy), now + 1);
                case KEPT: return day(copy) + 1;
                default: return NEVER;
            }
        }

        private boolean isOutTo(int copy, int reader) {
            return state(copy) == OUT && whose(copy) == reader;
        }

        void become(Copies other) {
            count = other.count;
            grid.become(other.grid);
        }
    }

    /** Holds stand in slots in the order in which they came, so a lesser slot has a lesser number. */
    private static final class Holds {
        private static final int READER = 0, TITLE = 1, BRANCH = 2, NEED = 3, MADE = 4, COPY = 5, NUMBER = 6, COLUMNS = 7;

        private final Grid grid = new Grid(MOST_HOLDS, COLUMNS);
        private int count;
        private int nextNumber;

        int reader(int slot) {
            return grid.at(slot, READER);
        }

        int title(int slot) {
            return grid.at(slot, TITLE);
        }

        int branch(int slot) {
            return grid.at(slot, BRANCH);
        }

        int need(int slot) {
            return grid.at(slot, NEED);
        }

        int made(int slot) {
            return grid.at(slot, MADE);
        }

        int copyFor(int slot) {
            return grid.at(slot, COPY);
        }

        int number(int slot) {
            return grid.at(slot, NUMBER);
        }

        int slotOf(int number) {
            for (int slot = 0; slot < count; slot++) {
                if (number(slot) == number) {
                    return slot;
                }
            }
            return NONE;
        }

        int add(int reader, int title, int branch, int need, int now) {
            int number = nextNumber;
            grid.put(count, READER, reader);
            grid.put(count, TITLE, title);
            grid.put(count, BRANCH, branch);
            grid.put(count, NEED, need);
            grid.put(count, MADE, now);
            grid.put(count, COPY, NONE);
            grid.put(count, NUMBER, number);
            count++;
            nextNumber++;
            return number;
        }

        void takeOut(int slot) {
            if (isBelow(slot, count)) {
                grid.takeOut(slot);
                count--;
            }
        }

        void putCopy(int slot, int copy) {
            if (isBelow(slot, count)) {
                grid.put(slot, COPY, copy);
            }
        }

        int waiting() {
            int found = 0;
            for (int slot = 0; slot < count; slot++) {
                if (copyFor(slot) == NONE) {
                    found++;
                }
            }
            return found;
        }

        int ofReader(int reader) {
            int found = 0;
            for (int slot = 0; slot < count; slot++) {
                if (reader(slot) == reader) {
                    found++;
                }
            }
            return found;
        }

        boolean has(int reader, int title) {
            for (int slot = 0; slot < count; slot++) {
                if (reader(slot) == reader && title(slot) == title) {
                    return true;
                }
            }
            return false;
        }

        int rowLength(int title) {
            int found = 0;
            for (int slot = 0; slot < count; slot++) {
                if (isInRow(slot, title)) {
                    found++;
                }
            }
            return found;
        }

        int firstOfRow(int title) {
            int first = NONE;
            for (int slot = 0; slot < count; slot++) {
                if (isInRow(slot, title) && (first == NONE || need(slot) > need(first))) {
                    first = slot;
                }
            }
            return first;
        }

        int placeInRow(int slot) {
            if (!isInRow(slot, title(slot))) {
                return NONE;
            }
            int ahead = 0;
            for (int other = 0; other < count; other++) {
                if (isInRow(other, title(slot)) && isAhead(other, slot)) {
                    ahead++;
                }
            }
            return ahead;
        }

        int longestWait(int title, int now) {
            int longest = 0;
            for (int slot = 0; slot < count; slot++) {
                if (isInRow(slot, title)) {
                    longest = Math.max(longest, now - made(slot));
                }
            }
            return longest;
        }

        private boolean isInRow(int slot, int title) {
            return grid.at(slot, TITLE) == title && grid.at(slot, COPY) == NONE;
        }

        private boolean isAhead(int slot, int other) {
            return need(slot) > need(other) || need(slot) == need(other) && slot < other;
        }

        void become(Holds other) {
            count = other.count;
            nextNumber = other.nextNumber;
            grid.become(other.grid);
        }
    }

    private static final class Calendar {
        private static final int TERM = 0, PATIENCE = 1, CLOSED = 2;
        private static final int MOST_TERM = 60, MOST_PATIENCE = 20, ALL_CLOSED = 127;

        private int now;
        private int term = 14;
        private int patience = 3;
        private int closed = 64;

        static boolean allows(int what, int v) {
            switch (what) {
                case TERM: return 1 <= v && v <= MOST_TERM;
                case PATIENCE: return 1 <= v && v <= MOST_PATIENCE;
                case CLOSED: return 0 <= v && v <= ALL_CLOSED;
                default: return false;
            }
        }

        int change(int what, int v) {
            int old;
            switch (what) {
                case TERM:
                    old = term;
                    term = v;
                    return old;
                case PATIENCE:
                    old = patience;
                    patience = v;
                    return old;
                default:
                    old = closed;
                    closed = v;
                    return old;
            }
        }

        boolean isClosed(int day) {
            return ((closed >> Math.floorMod(day, WEEK)) & 1) == 1;
        }

        int dueFromNow() {
            int day = now + term;
            for (int later = 0; later < WEEK; later++) {
                if (!isClosed(day + later)) {
                    return day + later;
                }
            }
            return day;
        }

        int lastOfPatience() {
            return now + patience;
        }

        void become(Calendar other) {
            now = other.now;
            term = other.term;
            patience = other.patience;
            closed = other.closed;
        }
    }

    /** All that is so; its deeds are called only when nothing refuses them. */
    private static final class House {
        private final Calendar calendar = new Calendar();
        private final Copies copies = new Copies();
        private final Holds holds = new Holds();
        /** The pairs of branches between which copies left today, as bits: a copy may be lost or at rest again by now. */
        private int trips;

        int addCopy(int title, int branch) {
            int copy = copies.add(title, branch);
            serve();
            return copy;
        }

        boolean mayTake(int copy, int reader) {
            int state = copies.state(copy);
            return state == IN || state == KEPT && holds.reader(holds.slotOf(copies.whose(copy))) == reader;
        }

        int lendTo(int copy, int reader) {
            if (copies.state(copy) == KEPT) {
                holds.takeOut(holds.slotOf(copies.whose(copy)));
            }
            int due = calendar.dueFromNow();
            copies.write(copy, copies.branch(copy), OUT, reader, due);
            return due;
        }

        int lendAgain(int copy) {
            return lendTo(copy, copies.whose(copy));
        }

        int takeBack(int copy, int branch) {
            int step = Math.max(copies.step(copy, calendar.now), 0);
            copies.write(copy, branch, IN, NONE, NONE);
            serve();
            return step;
        }

        int loseCopy(int copy) {
            int was = copies.state(copy);
            if (was == KEPT || was == ON_ITS_WAY) {
                holds.putCopy(holds.slotOf(copies.whose(copy)), NONE);
            }
            copies.write(copy, copies.branch(copy), LOST, NONE, NONE);
            serve();
            return was;
        }

        int addHold(int reader, int title, int branch, int need) {
            int number = holds.add(reader, title, branch, need, calendar.now);
            serve();
            return number;
        }

        int dropHold(int slot) {
            int copy = holds.copyFor(slot);
            holds.takeOut(slot);
            if (copy != NONE) {
                copies.write(copy, copies.branch(copy), IN, NONE, NONE);
            }
            serve();
            return holds.count;
        }

        void dayPasses() {
            calendar.now++;
            trips = 0;
            for (int copy = 0; copy < copies.count; copy++) {
                seeToday(copy);
            }
            serve();
        }

        private void seeToday(int copy) {
            int state = copies.state(copy);
            int day = copies.day(copy);
            if (state == ON_ITS_WAY && day <= calendar.now) {
                copies.write(copy, copies.branch(copy), KEPT, copies.whose(copy), calendar.lastOfPatience());
            } else if (state == KEPT && day < calendar.now) {
                holds.takeOut(holds.slotOf(copies.whose(copy)));
                copies.write(copy, copies.branch(copy), IN, NONE, NONE);
            }
        }

        /** Each round gives a copy to the first of a row or, where none can be given, goes on to the next title. */
        private void serve() {
            int title = 0;
            for (int round = 0; round < TITLES + MOST_COPIES && title < TITLES; round++) {
                int slot = holds.firstOfRow(title);
                int copy = slot == NONE ? NONE : copies.nearestIn(title, holds.branch(slot));
                if (copy == NONE) {
                    title++;
                } else {
                    assign(slot, copy);
                }
            }
        }

        private void assign(int slot, int copy) {
            int from = copies.branch(copy);
            int to = holds.branch(slot);
            int hold = holds.number(slot);
            holds.putCopy(slot, copy);
            if (from == to) {
                copies.write(copy, to, KEPT, hold, calendar.lastOfPatience());
            } else {
                copies.write(copy, to, ON_ITS_WAY, hold, calendar.now + way(from, to));
                trips |= 1 << (from * BRANCHES + to);
            }
        }

        int stateOfHold(int slot) {
            int copy = holds.copyFor(slot);
            if (copy == NONE) {
                return WAITS;
            }
            return copies.state(copy) == KEPT ? READY : ON_THE_WAY;
        }

        int soon(int slot) {
            switch (stateOfHold(slot)) {
                case WAITS: return copies.dayAtPlace(holds.title(slot), holds.placeInRow(slot), calendar.now);
                case READY: return calendar.now;
                default: return copies.day(holds.copyFor(slot));
            }
        }

        void become(House other) {
            calendar.become(other.calendar);
            copies.become(other.copies);
            holds.become(other.holds);
            trips = other.trips;
        }
    }

    /** Places for pictures of a house; each is made when it is first wanted and then used again. */
    private static final class Pictures {
        private final House[] places;

        Pictures(int size) {
            places = new House[Math.max(size, 0)];
        }

        boolean has(int place) {
            return isBelow(place, places.length) && places[place] != null;
        }

        void take(int place, House of) {
            if (!isBelow(place, places.length)) {
                return;
            }
            House picture = places[place];
            if (picture == null) {
                picture = new House();
                places[place] = picture;
            }
            picture.become(of);
        }

        void show(int place, House to) {
            House picture = isBelow(place, places.length) ? places[place] : null;
            if (picture != null) {
                to.become(picture);
            }
        }
    }

    private static final class Lots {
        private static final long TIMES = 16807, LEFT_BY = 2147483647;

        private long x;

        void begin(int seed) {
            x = seed;
        }

        int below(int bound) {
            x = x * TIMES % LEFT_BY;
            return bound > 0 ? (int) (x % bound) : 0;
        }
    }
}

/** Works that make clay pipes: from moulds over boards and saggars through the kiln to the taverns. */
public final class PipeMoulds {
    private static final int NONE = -1;

    private static final int SHORTEST = 4;
    private static final int LONGEST = 24;
    private static final int TIGHTEST = 9;
    private static final int MOST_WORN = 100;
    private static final int MOST_SKILL = 9;
    private static final int FRESH_WET = 6;
    private static final int DAYS_OF_TABLE = 7;
    private static final int MOST_DRYING = 3;
    private static final int MOST_IN_SAGGAR = 24;
    private static final int MOST_COALS = 30;
    private static final int MOST_ORDERED = 99;
    private static final int MOST_DAYS_LEFT = 30;
    private static final int MOST_PAID = 99;
    private static final int MOST_BOUGHT = 200;
    private static final int MOST_DAYS = 40;
    private static final int REFIT_COINS = 2;

    private static final int MOULDS = 6;
    private static final int MAKERS = 5;
    private static final int BATCHES = 10;
    private static final int SAGGARS = 6;
    private static final int ORDERS = 8;

    // What about(), told(), batch(), saggar() and waits() call these numbers, so a table's
    // columns stand in the same order; about() has some that are reckoned, behind the others.
    private static final int LENGTH = 0;
    private static final int STOPPER = 1;
    private static final int WORN = 2;
    private static final int MOULD_COLUMNS = 3;
    private static final int MOULD_FLAW = 3;
    private static final int MOULD_CLAY = 4;
    private static final int MOULD_MAKER = 5;

    private static final int SKILL = 0;
    private static final int AT_MOULD = 1;
    private static final int MAKER_COLUMNS = 2;

    private static final int MANY = 1;
    private static final int WET = 2;
    private static final int FLAW = 3;
    private static final int PIPES_COLUMNS = 4;

    private static final int DAYS_LEFT = 2;
    private static final int PAYS = 3;
    private static final int ORDER_COLUMNS = 4;

    private static final int LAST_ABOUT = 5;
    private static final int LAST_COUNT = 11;

    private static final int CLAY = 0;
    private static final int COALS = 1;

    private final Works works;
    // Days that are only foreseen go by here: made once, so that no call makes an object.
    private final Works foreseen;

    public PipeMoulds() {
        works = new Works();
        foreseen = new Works();
    }

    // ---- moulds, makers, wares

    public int mould(int length, int stopper) throws IllegalArgumentException, IllegalStateException {
        requireArgument(isLength(length));
        requireArgument(isWithin(stopper, 0, TIGHTEST));
        requireState(!works.moulds.isFull());
        return works.addMould(length, stopper);
    }

    public int refit(int mould) throws IndexOutOfBoundsException, IllegalStateException {
        requireIndex(works.moulds.hasRow(mould));
        int before = works.moulds.at(mould, STOPPER);
        requireState(before != TIGHTEST && works.coins >= REFIT_COINS);
        works.pay(REFIT_COINS);
        works.moulds.put(mould, STOPPER, TIGHTEST);
        return before;
    }

    public int maker(int skill) throws IllegalArgumentException, IllegalStateException {
        requireArgument(isWithin(skill, 1, MOST_SKILL));
        requireState(!works.makers.isFull());
        return works.addMaker(skill);
    }

    public int place(int maker, int mould) throws IndexOutOfBoundsException, IllegalStateException {
        requireIndex(works.makers.hasRow(maker));
        requireIndex(mould == NONE || works.moulds.hasRow(mould));
        requireState(!works.isAnotherAt(mould, maker));
        int before = works.makers.at(maker, AT_MOULD);
        works.makers.put(maker, AT_MOULD, mould);
        return before;
    }

    public int buy(int what, int many)
            throws IndexOutOfBoundsException, IllegalArgumentException, IllegalStateException {
        requireIndex(isWithin(what, CLAY, COALS));
        requireArgument(isWithin(many, 1, MOST_BOUGHT));
        int price = what == CLAY ? (many + 3) / 4 : many;
        requireState(works.coins >= price);
        works.pay(price);
        return what == CLAY ? works.addClay(many) : works.addCoals(many);
    }

    public int setDry(int day, int by) throws IndexOutOfBoundsException, IllegalArgumentException {
        requireIndex(isWithin(day, 0, DAYS_OF_TABLE - 1));
        requireArgument(isWithin(by, 0, MOST_DRYING));
        int before = works.driesBy(day);
        works.setDrying(day, by);
        return before;
    }

    // ---- the kiln, orders

    public int pack(int batch, int saggar, int many)
            throws IndexOutOfBoundsException, IllegalArgumentException, IllegalStateException {
        requireIndex(works.boards.hasRow(batch));
        requireIndex(works.saggars.hasRow(saggar));
        requireArgument(isWithin(many, 1, MOST_IN_SAGGAR));
        requireState(works.saggars.at(saggar, MANY) == 0);
        requireState(works.boards.at(batch, MANY) >= many);
        return works.packPipes(batch, saggar, many);
    }

    public int fire(int coals) throws IllegalArgumentException, IllegalStateException {
        requireArgument(isWithin(coals, 1, MOST_COALS));
        requireState(works.coals >= coals && !works.areSaggarsEmpty());
        return works.fireKiln(coals);
    }

    public int order(int length, int many, int days, int pays)
            throws IllegalArgumentException, IllegalStateException {
        requireArgument(isLength(length));
        requireArgument(isWithin(many, 1, MOST_ORDERED));
        requireArgument(isWithin(days, 0, MOST_DAYS_LEFT));
        requireArgument(isWithin(pays, 1, MOST_PAID));
        requireState(!works.orders.isFull());
        return works.addOrder(length, many, days, pays);
    }

    // ---- what there is

    public int about(int mould, int what) throws IndexOutOfBoundsException {
        requireIndex(works.moulds.hasRow(mould));
        requireIndex(isWithin(what, 0, LAST_ABOUT));
        return works.aboutMould(mould, what);
    }

    public int told(int maker, int what) throws IndexOutOfBoundsException {
        return cellOf(works.makers, maker, what);
    }

    public int batch(int batch, int what) throws IndexOutOfBoundsException {
        return cellOf(works.boards, batch, what);
    }

    public int saggar(int saggar, int what) throws IndexOutOfBoundsException {
        return cellOf(works.saggars, saggar, what);
    }

    public int store(int length) throws IndexOutOfBoundsException {
        requireIndex(isLength(length));
        return works.wholeOf(length);
    }

    public int waits(int place, int what) throws IndexOutOfBoundsException {
        return cellOf(works.orders, place, what);
    }

    public int count(int what) throws IndexOutOfBoundsException {
        requireIndex(isWithin(what, 0, LAST_COUNT));
        return works.counted(what);
    }

    // ---- days and what would be

    public int pass(int days) throws IllegalArgumentException {
        requireArgument(isWithin(days, 1, MOST_DAYS));
        int before = works.made;
        works.passDays(days);
        return works.made - before;
    }

    public int breaks(int saggar, int coals) throws IndexOutOfBoundsException, IllegalArgumentException {
        requireIndex(works.saggars.hasRow(saggar));
        requireArgument(isWithin(coals, 1, MOST_COALS));
        return works.stemsThatBreak(saggar, coals);
    }

    public int advise() {
        return works.areSaggarsEmpty() ? NONE : works.bestCoals();
    }

    public int ready(int place) throws IndexOutOfBoundsException {
        requireIndex(works.orders.hasRow(place));
        foreseen.copyFrom(works);
        return foreseen.daysTillServed(place);
    }

    public int foresee(int days, int what) throws IllegalArgumentException, IndexOutOfBoundsException {
        requireArgument(isWithin(days, 1, MOST_DAYS));
        requireIndex(isWithin(what, 0, LAST_COUNT));
        foreseen.copyFrom(works);
        foreseen.passDays(days);
        return foreseen.counted(what);
    }

    public double mean() {
        return works.meanFlaw();
    }

    public long digest() {
        return works.checksum();
    }

    private static boolean isWithin(int number, int least, int most) {
        return number >= least && number <= most;
    }

    private static boolean isLength(int length) {
        return isWithin(length, SHORTEST, LONGEST);
    }

    private static int cellOf(Table table, int row, int column) {
        requireIndex(table.hasRow(row));
        requireIndex(table.hasColumn(column));
        return table.at(row, column);
    }

    private static void requireIndex(boolean holds) {
        if (!holds) {
            throw new IndexOutOfBoundsException("there is no such number");
        }
    }

    private static void requireArgument(boolean holds) {
        if (!holds) {
            throw new IllegalArgumentException("an argument is out of its range");
        }
    }

    private static void requireState(boolean holds) {
        if (!holds) {
            throw new IllegalStateException("this can not be done now");
        }
    }

    /** Rows of whole numbers, of which those behind a removed one move up. */
    private static final class Table {
        private final int[] cells;
        private final int columns;
        private int rows;

        Table(int[] cells, int columns, int rows) {
            this.cells = cells;
            this.columns = columns;
            this.rows = rows;
        }

        void copyFrom(Table other) {
            System.arraycopy(other.cells, 0, cells, 0, Math.min(cells.length, other.cells.length));
            rows = other.rows;
        }

        int size() {
            return rows;
        }

        boolean isFull() {
            return (rows + 1) * columns > cells.length;
        }

        int width() {
            return columns;
        }

        boolean hasRow(int row) {
            return row >= 0 && row < rows;
        }

        boolean hasColumn(int column) {
            return column >= 0 && column < columns;
        }

        int at(int row, int column) {
            int cell = row * columns + column;
            if (row < 0 || row >= rows || column < 0 || column >= columns || cell < 0 || cell >= cells.length) {
                return 0;
            }
            return cells[cell];
        }

        void put(int row, int column, int value) {
            int cell = row * columns + column;
            if (row < 0 || row >= rows || column < 0 || column >= columns || cell < 0 || cell >= cells.length) {
                return;
            }
            cells[cell] = value;
        }

        /** Returns the number of a new row, or NONE if there is no room for it; its cells are to be put. */
        int addRow() {
            if (isFull()) {
                return NONE;
            }
            rows++;
            return rows - 1;
        }

        void removeRow(int row) {
            if (row < 0 || row >= rows) {
                return;
            }
            rows--;
            int end = Math.min(rows * columns, cells.length - columns);
            for (int cell = row * columns; cell < end; cell++) {
                cells[cell] = cells[cell + columns];
            }
        }

        int sum(int column) {
            int sum = 0;
            for (int row = 0; row < rows; row++) {
                sum += at(row, column);
            }
            return sum;
        }
    }

    /** All that the works have, and how a day and a firing change it. */
    private static final class Works {
        private static final int FIRST_CLAY = 200;
        private static final int FIRST_COALS = 20;
        private static final int FIRST_COINS = 30;
        private static final int FIRST_DRYING = 1;
        private static final long FIRST_OF_DIGEST = 1423;

        private final Table moulds = new Table(new int[MOULDS * MOULD_COLUMNS], MOULD_COLUMNS, 0);
        private final Table makers = new Table(new int[MAKERS * MAKER_COLUMNS], MAKER_COLUMNS, 0);
        private final Table boards = new Table(new int[BATCHES * PIPES_COLUMNS], PIPES_COLUMNS, 0);
        private final Table saggars = new Table(new int[SAGGARS * PIPES_COLUMNS], PIPES_COLUMNS, SAGGARS);
        private final Table orders = new Table(new int[ORDERS * ORDER_COLUMNS], ORDER_COLUMNS, 0);
        private final int[] drying = new int[DAYS_OF_TABLE];
        private final int[] whole = new int[LONGEST + 1];
        private int day;
        private int clay;
        private int coals;
        private int coins;
        private int made;
        private int broken;
        private int served;
        private int lost;
        // The place of the order that ready() asks for: it moves up when one ahead of it goes.
        private int watched;
        private boolean isWatchedServed;

        Works() {
            for (int of = 0; of < drying.length; of++) {
                drying[of] = FIRST_DRYING;
            }
            clay = FIRST_CLAY;
            coals = FIRST_COALS;
            coins = FIRST_COINS;
            watched = NONE;
        }

        void copyFrom(Works other) {
            moulds.copyFrom(other.moulds);
            makers.copyFrom(other.makers);
            boards.copyFrom(other.boards);
            saggars.copyFrom(other.saggars);
            orders.copyFrom(other.orders);
            System.arraycopy(other.drying, 0, drying, 0, DAYS_OF_TABLE);
            System.arraycopy(other.whole, 0, whole, 0, LONGEST + 1);
            day = other.day;
            clay = other.clay;
            coals = other.coals;
            coins = other.coins;
            made = other.made;
            broken = other.broken;
            served = other.served;
            lost = other.lost;
            watched = NONE;
            isWatchedServed = false;
        }

        int addMould(int length, int stopper) {
            int mould = moulds.addRow();
            moulds.put(mould, LENGTH, length);
            moulds.put(mould, STOPPER, stopper);
            moulds.put(mould, WORN, 0);
            return mould;
        }

        int addMaker(int skill) {
            int maker = makers.addRow();
            makers.put(maker, SKILL, skill);
            makers.put(maker, AT_MOULD, NONE);
            return maker;
        }

        int addOrder(int length, int many, int days, int pays) {
            int place = orders.addRow();
            orders.put(place, LENGTH, length);
            orders.put(place, MANY, many);
            orders.put(place, DAYS_LEFT, days);
            orders.put(place, PAYS, pays);
            return orders.size();
        }

        void pay(int price) {
            coins -= price;
        }

        int addClay(int pounds) {
            clay += pounds;
            return clay;
        }

        int addCoals(int more) {
            coals += more;
            return coals;
        }

        int driesBy(int of) {
            return of >= 0 && of < drying.length ? drying[of] : 0;
        }

        void setDrying(int of, int by) {
            if (of >= 0 && of < drying.length) {
                drying[of] = by;
            }
        }

        int wholeOf(int length) {
            return length >= 0 && length < whole.length ? whole[length] : 0;
        }

        private void addWhole(int length, int many) {
            if (length >= 0 && length < whole.length) {
                whole[length] += many;
            }
        }

        private int wholeInAll() {
            int sum = 0;
            for (int length = SHORTEST; length <= LONGEST; length++) {
                sum += wholeOf(length);
            }
            return sum;
        }

        private int flawOf(int mould) {
            return moulds.at(mould, WORN) / 10 + TIGHTEST - moulds.at(mould, STOPPER);
        }

        private int clayOf(int mould) {
            return (moulds.at(mould, LENGTH) + 7) / 8;
        }

        private int makerAt(int mould) {
            for (int maker = 0; maker < makers.size(); maker++) {
                if (makers.at(maker, AT_MOULD) == mould) {
                    return maker;
                }
            }
            return NONE;
        }

        boolean isAnotherAt(int mould, int maker) {
            if (mould == NONE) {
                return false;
            }
            int there = makerAt(mould);
            return there != NONE && there != maker;
        }

        int aboutMould(int mould, int what) {
            switch (what) {
                case MOULD_FLAW:
                    return flawOf(mould);
                case MOULD_CLAY:
                    return clayOf(mould);
                case MOULD_MAKER:
                    return makerAt(mould);
                default:
                    return moulds.at(mould, what);
            }
        }

        int counted(int what) {
            switch (what) {
                case 0:
                    return day;
                case 1:
                    return clay;
                case 2:
                    return coals;
                case 3:
                    return coins;
                case 4:
                    return made;
                case 5:
                    return broken;
                case 6:
                    return boards.sum(MANY);
                case 7:
                    return saggars.sum(MANY);
                case 8:
                    return wholeInAll();
                case 9:
                    return orders.size();
                case 10:
                    return served;
                default:
                    return lost;
            }
        }

        int packPipes(int batch, int saggar, int many) {
            int left = boards.at(batch, MANY) - many;
            for (int column = 0; column < PIPES_COLUMNS; column++) {
                saggars.put(saggar, column, boards.at(batch, column));
            }
            saggars.put(saggar, MANY, many);
            boards.put(batch, MANY, left);
            if (left == 0) {
                boards.removeRow(batch);
            }
            return left;
        }

        // ---- the kiln

        boolean areSaggarsEmpty() {
            return saggars.sum(MANY) == 0;
        }

        int stemsThatBreak(int saggar, int burnt) {
            int length = saggars.at(saggar, LENGTH);
            int offHeat = Math.abs(4 * burnt - (20 + 2 * length)) / 2;
            int atDoor = saggar == 0 || saggar == SAGGARS - 1 ? 5 : 0;
            int share = 8 * saggars.at(saggar, WET) + 2 * saggars.at(saggar, FLAW) + offHeat + atDoor;
            return (Math.min(share, 100) * saggars.at(saggar, MANY) + 99) / 100;
        }

        private int stemsThatBreakInAll(int burnt) {
            int sum = 0;
            for (int saggar = 0; saggar < SAGGARS; saggar++) {
                sum += stemsThatBreak(saggar, burnt);
            }
            return sum;
        }

        int bestCoals() {
            int best = 1;
            int fewest = stemsThatBreakInAll(1);
            for (int burnt = 2; burnt <= MOST_COALS; burnt++) {
                int stems = stemsThatBreakInAll(burnt);
                if (stems < fewest) {
                    best = burnt;
                    fewest = stems;
                }
            }
            return best;
        }

        int fireKiln(int burnt) {
            int wholeOnes = 0;
            for (int saggar = 0; saggar < SAGGARS; saggar++) {
                wholeOnes += unloadFired(saggar, burnt);
            }
            coals -= burnt;
            return wholeOnes;
        }

        private int unloadFired(int saggar, int burnt) {
            int stems = stemsThatBreak(saggar, burnt);
            int wholeOnes = saggars.at(saggar, MANY) - stems;
            broken += stems;
            addWhole(saggars.at(saggar, LENGTH), wholeOnes);
            for (int column = 0; column < PIPES_COLUMNS; column++) {
                saggars.put(saggar, column, 0);
            }
            return wholeOnes;
        }

        // ---- days

        void passDays(int days) {
            for (int gone = 0; gone < days; gone++) {
                passDay();
            }
        }

        private void passDay() {
            for (int maker = 0; maker < makers.size(); maker++) {
                letWork(maker);
            }
            int by = driesBy(Math.floorMod(day, DAYS_OF_TABLE));
            dry(boards, by);
            dry(saggars, by);
            lookAtOrders();
            day++;
        }

        private void letWork(int maker) {
            int mould = makers.at(maker, AT_MOULD);
            if (!moulds.hasRow(mould) || boards.isFull()) {
                return;
            }
            // The least length takes a pound, so the 1 only guards the division.
            int clayOfOne = Math.max(1, clayOf(mould));
            int pipes = Math.min(makers.at(maker, SKILL), clay / clayOfOne);
            if (pipes < 1) {
                return;
            }
            clay -= pipes * clayOfOne;
            made += pipes;
            layOnBoards(mould, pipes);
            wearMould(mould, (pipes + 3) / 4);
        }

        private void layOnBoards(int mould, int pipes) {
            int batch = boards.addRow();
            boards.put(batch, LENGTH, moulds.at(mould, LENGTH));
            boards.put(batch, MANY, pipes);
            boards.put(batch, WET, FRESH_WET);
            boards.put(batch, FLAW, flawOf(mould));
        }

        private void wearMould(int mould, int by) {
            int before = moulds.at(mould, WORN);
            int then = Math.min(MOST_WORN, before + by);
            moulds.put(mould, WORN, then);
            if (then / 10 > before / 10) {
                moulds.put(mould, STOPPER, Math.max(0, moulds.at(mould, STOPPER) - 1));
            }
        }

        private static void dry(Table pipes, int by) {
            for (int row = 0; row < pipes.size(); row++) {
                pipes.put(row, WET, Math.max(0, pipes.at(row, WET) - by));
            }
        }

        private void lookAtOrders() {
            int waiting = orders.size();
            int place = 0;
            for (int look = 0; look < waiting; look++) {
                if (lookAtOrder(place)) {
                    place++;
                }
            }
        }

        /** Returns if the order still waits. */
        private boolean lookAtOrder(int place) {
            int length = orders.at(place, LENGTH);
            int many = orders.at(place, MANY);
            int daysLeft = orders.at(place, DAYS_LEFT) - 1;
            if (wholeOf(length) >= many) {
                addWhole(length, -many);
                coins += orders.at(place, PAYS);
                served++;
                dismiss(place, true);
                return false;
            }
            if (daysLeft < 0) {
                lost++;
                dismiss(place, false);
                return false;
            }
            orders.put(place, DAYS_LEFT, daysLeft);
            return true;
        }

        private void dismiss(int place, boolean isServed) {
            orders.removeRow(place);
            if (place == watched) {
                watched = NONE;
                isWatchedServed = isServed;
            } else if (place < watched) {
                watched--;
            }
        }

        /** Lets days go by until the order is gone; returns how many, or NONE if it is lost. */
        int daysTillServed(int place) {
            watched = place;
            int days = 0;
            while (watched != NONE && days <= MOST_DAYS_LEFT) {
                passDay();
                days++;
            }
            return isWatchedServed ? days : NONE;
        }

        // ---- sums of all

        double meanFlaw() {
            int pipes = boards.sum(MANY);
            if (pipes == 0) {
                return 0.0;
            }
            int flaws = 0;
            for (int batch = 0; batch < boards.size(); batch++) {
                flaws += boards.at(batch, MANY) * boards.at(batch, FLAW);
            }
            return (double) flaws / (double) pipes;
        }

        long checksum() {
            long d = FIRST_OF_DIGEST;
            for (int what = 0; what <= LAST_COUNT; what++) {
                d = d * 31 + counted(what);
            }
            for (int of = 0; of < DAYS_OF_TABLE; of++) {
                d = d * 31 + driesBy(of);
            }
            d = withMoulds(d);
            d = withTable(d, makers);
            d = withTable(d, boards);
            d = withTable(d, saggars);
            for (int length = SHORTEST; length <= LONGEST; length++) {
                d = d * 31 + wholeOf(length);
            }
            return withTable(d, orders);
        }

        private long withMoulds(long before) {
            long d = before;
            for (int mould = 0; mould < moulds.size(); mould++) {
                for (int what = 0; what <= LAST_ABOUT; what++) {
                    d = d * 31 + aboutMould(mould, what);
                }
            }
            return d;
        }

        private static long withTable(long before, Table table) {
            long d = before;
            for (int row = 0; row < table.size(); row++) {
                for (int column = 0; column < table.width(); column++) {
                    d = d * 31 + table.at(row, column);
                }
            }
            return d;
        }
    }
}

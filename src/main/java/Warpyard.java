/**
 * A yard of trains, a timetable office and an exchange of waggons on the same tracks; what each call does stands in
 * DOC.md. Only the face throws, and before it changes anything: so the classes inside, which hold the state in rows
 * made once, are called with checked numbers alone.
 */
public final class Warpyard {
    public static final int NONE = -1;
    public static final int OPEN = 0, MET = 1, BROKEN = 2;

    private static final int BLOCKS = 8;
    private static final int FIRST_SIDING = 6;
    private static final int SIDINGS = 2;
    private static final int SWITCHES = 2;
    private static final int MOST_TRAINS = 4;
    private static final int MOST_BOOKINGS = 30;
    private static final int MOST_WAGGONS = 8;
    private static final int MOST_IN_SIDING = 4;
    private static final int MOST_WEIGHT = 100;
    private static final int MOST_MINUTES = 100;
    private static final int MOST_DELAY = 1000;
    private static final int MOST_PRICE = 1000;
    private static final int LAST_MINUTE = 5000;
    private static final int WHERE_TRAINS_BEGIN = 10;

    private final Tracks tracks = new Tracks();
    private final Trains trains = new Trains();
    /** Kept from call to call, so that asking what would be reached makes no new objects. */
    private final Trains trial = new Trains();
    private final Bookings bookings = new Bookings();
    private final Waggons waggons = new Waggons();
    private final Offers offers = new Offers();
    private int now;
    private int money;

    public Warpyard() {
    }

    // ---- trains and switches

    public int addTrain(int block, boolean isRight) throws IndexOutOfBoundsException, IllegalStateException {
        needBlock(block);
        if (trains.count >= MOST_TRAINS) {
            throw new IllegalStateException("there are 4 trains");
        }
        if (trains.standingOn(block) != NONE) {
            throw new IllegalStateException("a train stands on that block");
        }
        return trains.add(block, isRight);
    }

    public boolean hold(int train, boolean is) throws IndexOutOfBoundsException {
        needTrain(train);
        boolean changes = trains.held[train] != is;
        trains.held[train] = is;
        return changes;
    }

    public int delay(int train, int minutes) throws IndexOutOfBoundsException, IllegalArgumentException {
        needTrain(train);
        needMinutesToRun(minutes);
        int longer = trains.delay[train] + minutes;
        if (longer > MOST_DELAY) {
            throw new IllegalArgumentException("the delay would be above 1000");
        }
        trains.delay[train] = longer;
        return longer;
    }

    public boolean reverse(int train) throws IndexOutOfBoundsException {
        needTrain(train);
        return trains.turnRound(train);
    }

    public boolean throwSwitch(int number) throws IndexOutOfBoundsException {
        if (number < 0 || number >= SWITCHES) {
            throw new IndexOutOfBoundsException("no such switch");
        }
        return tracks.turn(number);
    }

    public int block(int train) throws IndexOutOfBoundsException {
        needTrain(train);
        return trains.block[train];
    }

    public boolean isRight(int train) throws IndexOutOfBoundsException {
        needTrain(train);
        return trains.right[train];
    }

    public int trainOn(int block) throws IndexOutOfBoundsException {
        needBlock(block);
        return trains.standingOn(block);
    }

    // ---- minutes

    public int run(int minutes) throws IllegalArgumentException, IllegalStateException {
        needMinutesToRun(minutes);
        if (now + minutes > LAST_MINUTE) {
            throw new IllegalStateException("the clock would be above 5000");
        }
        int moves = 0;
        for (int i = 0; i < minutes; i++) {
            moves += trains.runMinute(tracks, bookings, now);
            bookings.markMet(trains, now);
            now++;
        }
        return moves;
    }

    public int clock() {
        return now;
    }

    public int reaches(int train, int block) throws IndexOutOfBoundsException {
        needTrain(train);
        needBlock(block);
        if (trains.block[train] == block) {
            return 0;
        }
        trial.copyFrom(trains);
        for (int minutes = 1; minutes <= MOST_MINUTES; minutes++) {
            trial.runMinute(tracks, bookings, now + minutes - 1);
            if (trial.block[train] == block) {
                return minutes;
            }
        }
        return NONE;
    }

    // ---- bookings

    public int book(int train, int block, int first, int last)
            throws IndexOutOfBoundsException, IllegalArgumentException, IllegalStateException {
        needTrain(train);
        needBlock(block);
        needSpan(now, first, last);
        if (bookings.count >= MOST_BOOKINGS) {
            throw new IllegalStateException("there are 30 bookings");
        }
        if (bookings.meetsAnother(train, block, first, last)) {
            return NONE;
        }
        return bookings.add(train, block, first, last);
    }

    public boolean canBook(int train, int block, int first, int last)
            throws IndexOutOfBoundsException, IllegalArgumentException {
        needTrain(train);
        needBlock(block);
        needSpan(0, first, last);
        return !bookings.meetsAnother(train, block, first, last);
    }

    public boolean canBookByMinutes(int train, int block, int first, int last)
            throws IndexOutOfBoundsException, IllegalArgumentException {
        needTrain(train);
        needBlock(block);
        needSpan(0, first, last);
        for (int minute = first; minute <= last; minute++) {
            if (bookings.isForAnother(train, block, minute)) {
                return false;
            }
        }
        return true;
    }

    public int booking(int booking) throws IndexOutOfBoundsException {
        needBooking(booking);
        if (bookings.lateness[booking] != NONE) {
            return MET;
        }
        return bookings.last[booking] < now ? BROKEN : OPEN;
    }

    public int late(int booking) throws IndexOutOfBoundsException {
        needBooking(booking);
        return bookings.lateness[booking];
    }

    // ---- waggons

    public int addWaggon(int siding, int weight)
            throws IndexOutOfBoundsException, IllegalArgumentException, IllegalStateException {
        needSiding(siding);
        if (weight < 1 || weight > MOST_WEIGHT) {
            throw new IllegalArgumentException("weight is out of range");
        }
        if (waggons.count >= MOST_WAGGONS) {
            throw new IllegalStateException("there are 8 waggons");
        }
        needRoomIn(siding);
        return waggons.add(Waggons.rowOfSiding(siding), weight);
    }

    public void offer(int waggon, int siding, int minute, int price)
            throws IndexOutOfBoundsException, IllegalArgumentException {
        if (waggon < 0 || waggon >= waggons.count) {
            throw new IndexOutOfBoundsException("no such waggon");
        }
        needSiding(siding);
        if (minute < 0 || minute > LAST_MINUTE) {
            throw new IllegalArgumentException("minute is out of range");
        }
        if (price < 1 || price > MOST_PRICE) {
            throw new IllegalArgumentException("price is out of range");
        }
        offers.put(waggon, siding, minute, price);
    }

    public int couple(int train) throws IndexOutOfBoundsException, IllegalStateException {
        needTrain(train);
        int from = Waggons.rowOfSiding(sidingUnder(train));
        int onto = Waggons.rowOfTrain(train);
        int waggon = waggons.lastOf(from);
        if (waggon == NONE) {
            throw new IllegalStateException("there is no waggon in the siding");
        }
        if (waggons.weightOf(onto) + waggons.weight[waggon] > MOST_WEIGHT) {
            throw new IllegalStateException("all would weigh too much");
        }
        waggons.moveLast(from, onto);
        return waggon;
    }

    public int leave(int train) throws IndexOutOfBoundsException, IllegalStateException {
        needTrain(train);
        int siding = sidingUnder(train);
        int from = Waggons.rowOfTrain(train);
        int waggon = waggons.lastOf(from);
        if (waggon == NONE) {
            throw new IllegalStateException("the train has no waggon");
        }
        needRoomIn(siding);
        waggons.moveLast(from, Waggons.rowOfSiding(siding));
        int price = offers.settle(waggon, siding, now);
        money += price;
        return price;
    }

    public int waggonAt(int where, int place) throws IndexOutOfBoundsException {
        boolean isSiding = isSiding(where);
        if (!isSiding && (where < WHERE_TRAINS_BEGIN || where >= WHERE_TRAINS_BEGIN + trains.count)) {
            throw new IndexOutOfBoundsException("no such siding or train");
        }
        if (place < 0) {
            throw new IndexOutOfBoundsException("place is below 0");
        }
        if (isSiding) {
            return waggons.fromLast(Waggons.rowOfSiding(where), place);
        }
        return waggons.fromFirst(Waggons.rowOfTrain(where - WHERE_TRAINS_BEGIN), place);
    }

    public int earned() {
        return money;
    }

    // ---- what the calls above check

    private void needTrain(int train) {
        if (train < 0 || train >= trains.count) {
            throw new IndexOutOfBoundsException("no such train");
        }
    }

    private void needBooking(int booking) {
        if (booking < 0 || booking >= bookings.count) {
            throw new IndexOutOfBoundsException("no such booking");
        }
    }

    private static void needBlock(int block) {
        if (block < 0 || block >= BLOCKS) {
            throw new IndexOutOfBoundsException("no such block");
        }
    }

    private static void needSiding(int siding) {
        if (!isSiding(siding)) {
            throw new IndexOutOfBoundsException("no such siding");
        }
    }

    private static boolean isSiding(int block) {
        return block >= FIRST_SIDING && block < FIRST_SIDING + SIDINGS;
    }

    private static void needMinutesToRun(int minutes) {
        if (minutes < 1 || minutes > MOST_MINUTES) {
            throw new IllegalArgumentException("minutes is out of range");
        }
    }

    private static void needSpan(int earliest, int first, int last) {
        if (first < earliest || first > LAST_MINUTE) {
            throw new IllegalArgumentException("first is out of range");
        }
        if (last < first || last > LAST_MINUTE) {
            throw new IllegalArgumentException("last is out of range");
        }
    }

    private void needRoomIn(int siding) {
        if (waggons.size[Waggons.rowOfSiding(siding)] >= MOST_IN_SIDING) {
            throw new IllegalStateException("there are 4 waggons in the siding");
        }
    }

    private int sidingUnder(int train) {
        int block = trains.block[train];
        if (!isSiding(block)) {
            throw new IllegalStateException("the train stands on no siding");
        }
        return block;
    }

    private static final class Tracks {
        /** Not NONE, which is behind an end that a switch leaves unjoined: there a train waits and does not turn. */
        static final int DEAD_END = -2;

        final boolean[] turned = new boolean[SWITCHES];

        boolean turn(int number) {
            turned[number] = !turned[number];
            return turned[number];
        }

        int ahead(int block, boolean toRight) {
            return toRight ? rightOf(block) : leftOf(block);
        }

        private int rightOf(int block) {
            switch (block) {
                case 1:
                    return turned[0] ? 6 : 2;
                case 3:
                    return turned[1] ? 7 : 4;
                case 5:
                case 6:
                case 7:
                    return DEAD_END;
                default:
                    return block + 1;
            }
        }

        private int leftOf(int block) {
            switch (block) {
                case 0:
                    return DEAD_END;
                case 2:
                    return turned[0] ? NONE : 1;
                case 4:
                    return turned[1] ? NONE : 3;
                case 6:
                    return turned[0] ? 1 : NONE;
                case 7:
                    return turned[1] ? 3 : NONE;
                default:
                    return block - 1;
            }
        }
    }

    private static final class Trains {
        final int[] block = new int[MOST_TRAINS];
        final boolean[] right = new boolean[MOST_TRAINS];
        final boolean[] held = new boolean[MOST_TRAINS];
        final int[] delay = new int[MOST_TRAINS];
        int count;

        int add(int onBlock, boolean toRight) {
            int train = count;
            block[train] = onBlock;
            right[train] = toRight;
            count++;
            return train;
        }

        int standingOn(int wanted) {
            for (int train = 0; train < count; train++) {
                if (block[train] == wanted) {
                    return train;
                }
            }
            return NONE;
        }

        boolean turnRound(int train) {
            right[train] = !right[train];
            return right[train];
        }

        void copyFrom(Trains other) {
            count = other.count;
            for (int train = 0; train < count; train++) {
                block[train] = other.block[train];
                right[train] = other.right[train];
                held[train] = other.held[train];
                delay[train] = other.delay[train];
            }
        }

        int runMinute(Tracks tracks, Bookings bookings, int minute) {
            int moves = 0;
            for (int train = 0; train < count; train++) {
                if (step(train, tracks, bookings, minute)) {
                    moves++;
                }
            }
            return moves;
        }

        private boolean step(int train, Tracks tracks, Bookings bookings, int minute) {
            if (delay[train] > 0) {
                delay[train]--;
                return false;
            }
            if (held[train]) {
                return false;
            }
            int ahead = tracks.ahead(block[train], right[train]);
            if (ahead == Tracks.DEAD_END) {
                turnRound(train);
                return false;
            }
            if (ahead == NONE || standingOn(ahead) != NONE || bookings.isForAnother(train, ahead, minute)) {
                return false;
            }
            block[train] = ahead;
            return true;
        }
    }

    /** OPEN and BROKEN are not held: they follow from the clock. */
    private static final class Bookings {
        final int[] train = new int[MOST_BOOKINGS];
        final int[] block = new int[MOST_BOOKINGS];
        final int[] first = new int[MOST_BOOKINGS];
        final int[] last = new int[MOST_BOOKINGS];
        final int[] lateness = new int[MOST_BOOKINGS];
        int count;

        int add(int forTrain, int ofBlock, int from, int to) {
            int booking = count;
            train[booking] = forTrain;
            block[booking] = ofBlock;
            first[booking] = from;
            last[booking] = to;
            lateness[booking] = NONE;
            count++;
            return booking;
        }

        boolean meetsAnother(int forTrain, int ofBlock, int from, int to) {
            for (int i = 0; i < count; i++) {
                if (block[i] == ofBlock && train[i] != forTrain && first[i] <= to && from <= last[i]) {
                    return true;
                }
            }
            return false;
        }

        boolean isForAnother(int forTrain, int ofBlock, int minute) {
            for (int i = 0; i < count; i++) {
                if (block[i] == ofBlock && train[i] != forTrain && isIn(i, minute)) {
                    return true;
                }
            }
            return false;
        }

        void markMet(Trains trains, int minute) {
            for (int i = 0; i < count; i++) {
                if (lateness[i] == NONE && isIn(i, minute) && trains.standingOn(block[i]) == train[i]) {
                    lateness[i] = minute - first[i];
                }
            }
        }

        private boolean isIn(int booking, int minute) {
            return first[booking] <= minute && minute <= last[booking];
        }
    }

    /** Sidings and trains alike take and give waggons at one end only, so each is a row with its last one there. */
    private static final class Waggons {
        /** Light waggons might all hang on one train. */
        static final int PLACES = MOST_WAGGONS;
        static final int ROWS = SIDINGS + MOST_TRAINS;

        final int[] weight = new int[MOST_WAGGONS];
        final int[] size = new int[ROWS];
        private final int[] inRow = new int[ROWS * PLACES];
        int count;

        static int rowOfSiding(int siding) {
            return siding - FIRST_SIDING;
        }

        static int rowOfTrain(int train) {
            return SIDINGS + train;
        }

        int add(int row, int itsWeight) {
            int waggon = count;
            weight[waggon] = itsWeight;
            count++;
            append(row, waggon);
            return waggon;
        }

        int fromFirst(int row, int place) {
            return place < size[row] ? inRow[row * PLACES + place] : NONE;
        }

        int fromLast(int row, int place) {
            return place < size[row] ? inRow[row * PLACES + size[row] - 1 - place] : NONE;
        }

        int lastOf(int row) {
            return fromLast(row, 0);
        }

        int weightOf(int row) {
            int sum = 0;
            for (int place = 0; place < size[row]; place++) {
                sum += weight[inRow[row * PLACES + place]];
            }
            return sum;
        }

        void moveLast(int from, int onto) {
            int waggon = lastOf(from);
            if (waggon != NONE) {
                size[from]--;
                append(onto, waggon);
            }
        }

        private void append(int row, int waggon) {
            if (size[row] < PLACES) {
                inRow[row * PLACES + size[row]] = waggon;
                size[row]++;
            }
        }
    }

    private static final class Offers {
        /** What a new row holds, so that waggons begin without an offer. */
        static final int NO_SIDING = 0;
        static final int MINUTES_OF_HOUR = 60;
        static final int LESS_EACH_HOUR = 10;

        final int[] siding = new int[MOST_WAGGONS];
        final int[] minute = new int[MOST_WAGGONS];
        final int[] price = new int[MOST_WAGGONS];

        void put(int waggon, int toSiding, int byMinute, int forPrice) {
            siding[waggon] = toSiding;
            minute[waggon] = byMinute;
            price[waggon] = forPrice;
        }

        int settle(int waggon, int inSiding, int clock) {
            if (siding[waggon] != inSiding) {
                return 0;
            }
            siding[waggon] = NO_SIDING;
            return Math.max(0, price[waggon] - LESS_EACH_HOUR * begunHours(clock - minute[waggon]));
        }

        private static int begunHours(int minutes) {
            return minutes > 0 ? (minutes + MINUTES_OF_HOUR - 1) / MINUTES_OF_HOUR : 0;
        }
    }
}

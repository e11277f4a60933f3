/** A calendar of meetings that are ordered; README.md says how to use it. */
public final class MeetingOrders {
    public static final int NONE = -1;

    private static final int WEEKS = 20;
    private static final int WEEKS_KEPT = 4;
    private static final int SLOTS = 28;
    private static final int SLOTS_A_DAY = 4;
    private static final int ALL_SLOTS = (1 << SLOTS) - 1;
    private static final int MAX_HOURS = 7;
    private static final int MAX_ORDERS = 8;
    private static final int MAX_ESCORTS = 6;
    private static final int MAX_LIMIT = 20;
    private static final int MAX_VENUES = 5;
    private static final int MAX_ROOMS = 4;
    private static final int MAX_KEPT = 60;
    private static final int MAX_SAVED = 4;
    private static final int MAX_BYTES = 100;
    private static final int MAX_BYTE = 127;

    private static final int MAX_ORDER_FACT = 6;
    private static final int MAX_MEETING_FACT = 5;
    private static final int MAX_ESCORT_FACT = 3;
    private static final int MAX_VALUE = 9;

    private static final int PLANNED = 0;
    private static final int HELD = 1;
    private static final int MISSED = 2;

    private static final int CAN_BE_PLANNED = 0;
    private static final int WEEK_IS_OVER = 1;
    private static final int VENUE_NOT_ALLOWED = 2;
    private static final int DAY_TAKEN = 3;
    private static final int SLOT_NOT_OFFERED = 4;
    private static final int ESCORT_TAKEN = 5;
    private static final int LIMIT_REACHED = 6;
    private static final int NO_FREE_ROOM = 7;
    private static final int ALL_KEPT = 8;

    private static final int SYNTAX_ERROR_BASE = -10;
    private static final long DIGEST_START = 3739;

    private final State now;
    /** What-if questions are asked of this copy, so that no call makes objects. */
    private final State trial;
    private final State[] saved;
    private final WeekBook book;
    private final OrderText text;
    private int savedCount;

    public MeetingOrders() {
        now = new State();
        trial = new State();
        saved = new State[MAX_SAVED];
        for (int i = 0; i < saved.length; i++) {
            saved[i] = new State();
        }
        book = new WeekBook();
        text = new OrderText();
        savedCount = 0;
    }

    // ---- orders

    public int addOrder(int hours, int venues) throws IllegalArgumentException, IllegalStateException {
        if (!isHours(hours) || !now.hasAllVenues(venues)) {
            throw new IllegalArgumentException("hours or venues is out of range");
        }
        if (now.orders >= MAX_ORDERS) {
            throw new IllegalStateException("there are 8 orders");
        }
        save();
        return now.enterOrder(hours, venues);
    }

    public int change(int order, int week, int hours) throws IndexOutOfBoundsException, IllegalArgumentException {
        if (!now.hasOrder(order)) {
            throw new IndexOutOfBoundsException("no such order");
        }
        if (!mayChange(week, hours)) {
            throw new IllegalArgumentException("week or hours is out of range");
        }
        save();
        int before = now.hoursIn(order, week);
        now.setHoursFrom(order, week, hours);
        return before;
    }

    public int allow(int order, int venues) throws IndexOutOfBoundsException, IllegalArgumentException {
        if (!now.hasOrder(order)) {
            throw new IndexOutOfBoundsException("no such order");
        }
        if (!now.hasAllVenues(venues)) {
            throw new IllegalArgumentException("venues is out of range");
        }
        save();
        int before = now.allowed.get(order);
        now.allowed.set(order, venues);
        return before;
    }

    public int addEscort(int slots, int limit) throws IllegalArgumentException, IllegalStateException {
        if (!isSetOfSlots(slots) || limit < 1 || limit > MAX_LIMIT) {
            throw new IllegalArgumentException("slots or limit is out of range");
        }
        if (now.escorts >= MAX_ESCORTS) {
            throw new IllegalStateException("there are 6 escorts");
        }
        save();
        return now.enterEscort(slots, limit);
    }

    public int setSlots(int escort, int slots) throws IndexOutOfBoundsException, IllegalArgumentException {
        if (!now.hasEscort(escort)) {
            throw new IndexOutOfBoundsException("no such escort");
        }
        if (!isSetOfSlots(slots)) {
            throw new IllegalArgumentException("slots is out of range");
        }
        save();
        int before = now.slots.get(escort);
        now.slots.set(escort, slots);
        return before;
    }

    public int addVenue(int rooms) throws IllegalArgumentException, IllegalStateException {
        if (rooms < 1 || rooms > MAX_ROOMS) {
            throw new IllegalArgumentException("rooms is out of range");
        }
        if (now.venues >= MAX_VENUES) {
            throw new IllegalStateException("there are 5 venues");
        }
        save();
        return now.enterVenue(rooms);
    }

    public int plan(int order, int week, int slot, int escort, int venue)
            throws IndexOutOfBoundsException, IllegalArgumentException, IllegalStateException {
        if (!now.hasOrder(order) || !now.hasEscort(escort) || !now.hasVenue(venue)) {
            throw new IndexOutOfBoundsException("no such order, escort or venue");
        }
        if (!isWeek(week) || !isSlot(slot)) {
            throw new IllegalArgumentException("week or slot is out of range");
        }
        if (reasonAgainst(order, week, slot, escort, venue) != CAN_BE_PLANNED) {
            throw new IllegalStateException("the meeting cannot be planned");
        }
        save();
        return now.keepMeeting(order, week, slot, escort, venue);
    }

    public int planWeek(int week) throws IllegalArgumentException, IllegalStateException {
        if (!isWeek(week)) {
            throw new IllegalArgumentException("week is out of range");
        }
        if (now.isOver(week)) {
            throw new IllegalStateException("the week is before the present one");
        }
        save();
        return book.planAll(now, week);
    }

    public int cancel(int meeting) throws IndexOutOfBoundsException, IllegalStateException {
        int place = now.placeOf(meeting);
        if (place == NONE) {
            throw new IndexOutOfBoundsException("no such meeting is kept");
        }
        if (now.fact(place, State.STATUS) != PLANNED) {
            throw new IllegalStateException("the meeting is not planned");
        }
        save();
        int week = now.fact(place, State.WEEK);
        now.dropMeeting(place);
        return week;
    }

    public int tell(int meeting, boolean held) throws IndexOutOfBoundsException, IllegalStateException {
        int place = now.placeOf(meeting);
        if (place == NONE) {
            throw new IndexOutOfBoundsException("no such meeting is kept");
        }
        if (!now.isOpen(place)) {
            throw new IllegalStateException("the meeting is not planned, or not in the present week");
        }
        save();
        now.settle(place, held ? HELD : MISSED);
        return now.debt(now.fact(place, State.ORDER), now.week);
    }

    public int endWeek() throws IllegalStateException {
        if (now.isLastWeek()) {
            throw new IllegalStateException("the present week is 19");
        }
        save();
        int missed = now.settleWeek(MISSED);
        now.beginNextWeek();
        return missed;
    }

    // ---- values

    public int order(int order, int what) throws IndexOutOfBoundsException, IllegalArgumentException {
        if (!now.hasOrder(order)) {
            throw new IndexOutOfBoundsException("no such order");
        }
        switch (what) {
            case 0: return now.hoursIn(order, now.week);
            case 1: return now.allowed.get(order);
            case 2: return now.held.get(order);
            case 3: return now.missed.get(order);
            case 4: return now.plannedUpTo(order, WEEKS - 1);
            case 5: return now.debt(order, now.week);
            case 6: return now.hoursUpTo(order, WEEKS - 1);
            default: throw new IllegalArgumentException("what is out of range");
        }
    }

    public int hours(int order, int week) throws IndexOutOfBoundsException, IllegalArgumentException {
        if (!now.hasOrder(order)) {
            throw new IndexOutOfBoundsException("no such order");
        }
        if (!isWeek(week)) {
            throw new IllegalArgumentException("week is out of range");
        }
        return now.hoursIn(order, week);
    }

    public int owed(int order, int week) throws IndexOutOfBoundsException, IllegalArgumentException {
        if (!now.hasOrder(order)) {
            throw new IndexOutOfBoundsException("no such order");
        }
        if (!isWeek(week)) {
            throw new IllegalArgumentException("week is out of range");
        }
        return now.debt(order, week);
    }

    public int meeting(int meeting, int what) throws IndexOutOfBoundsException, IllegalArgumentException {
        int place = now.placeOf(meeting);
        if (place == NONE) {
            throw new IndexOutOfBoundsException("no such meeting is kept");
        }
        if (what < 0 || what > MAX_MEETING_FACT) {
            throw new IllegalArgumentException("what is out of range");
        }
        return now.fact(place, what);
    }

    public int escort(int escort, int what) throws IndexOutOfBoundsException, IllegalArgumentException {
        if (!now.hasEscort(escort)) {
            throw new IndexOutOfBoundsException("no such escort");
        }
        switch (what) {
            case 0: return now.slots.get(escort);
            case 1: return now.limits.get(escort);
            case 2: return now.meetingsWith(escort, now.week);
            case 3: return now.heldWith.get(escort);
            default: throw new IllegalArgumentException("what is out of range");
        }
    }

    public int freeRooms(int venue, int week, int slot) throws IndexOutOfBoundsException, IllegalArgumentException {
        if (!now.hasVenue(venue)) {
            throw new IndexOutOfBoundsException("no such venue");
        }
        if (!isWeek(week) || !isSlot(slot)) {
            throw new IllegalArgumentException("week or slot is out of range");
        }
        book.open(now, week);
        return book.roomsLeft(now, venue, slot);
    }

    public int value(int what) throws IllegalArgumentException {
        switch (what) {
            case 0: return now.orders;
            case 1: return now.escorts;
            case 2: return now.venues;
            case 3: return now.meetings;
            case 4: return now.week;
            case 5: return now.nextNumber;
            case 6: return now.held.sum();
            case 7: return now.missed.sum();
            case 8: return now.debtOfAll(now.week);
            case 9: return now.nextNumber;
            default: throw new IllegalArgumentException("what is out of range");
        }
    }

    // ---- what if

    public int why(int order, int week, int slot, int escort, int venue)
            throws IndexOutOfBoundsException, IllegalArgumentException {
        if (!now.hasOrder(order) || !now.hasEscort(escort) || !now.hasVenue(venue)) {
            throw new IndexOutOfBoundsException("no such order, escort or venue");
        }
        if (!isWeek(week) || !isSlot(slot)) {
            throw new IllegalArgumentException("week or slot is out of range");
        }
        return reasonAgainst(order, week, slot, escort, venue);
    }

    public int firstSlot(int order, int week) throws IndexOutOfBoundsException, IllegalArgumentException {
        if (!now.hasOrder(order)) {
            throw new IndexOutOfBoundsException("no such order");
        }
        if (!isWeek(week)) {
            throw new IllegalArgumentException("week is out of range");
        }
        if (now.isOver(week) || now.isFull()) {
            return NONE;
        }
        book.open(now, week);
        return book.search(now, order) ? book.slot : NONE;
    }

    public int owedBehind(int week) throws IllegalArgumentException, IllegalStateException {
        if (!isWeek(week)) {
            throw new IllegalArgumentException("week is out of range");
        }
        if (now.isOver(week)) {
            throw new IllegalStateException("the week is before the present one");
        }
        trial.copyFrom(now);
        book.planAll(trial, week);
        return trial.debtOfAll(week);
    }

    public int settledIn() {
        trial.copyFrom(now);
        for (int week = now.week; week < WEEKS; week++) {
            book.planAll(trial, week);
            trial.settleWeek(HELD);
            if (trial.debtOfAll(week) == 0) {
                return week;
            }
            trial.beginNextWeek();
        }
        return NONE;
    }

    public int gainBy(int escort, int week)
            throws IndexOutOfBoundsException, IllegalArgumentException, IllegalStateException {
        if (!now.hasEscort(escort)) {
            throw new IndexOutOfBoundsException("no such escort");
        }
        if (!isWeek(week)) {
            throw new IllegalArgumentException("week is out of range");
        }
        if (now.isOver(week)) {
            throw new IllegalStateException("the week is before the present one");
        }
        trial.copyFrom(now);
        int without = book.planAll(trial, week);
        trial.copyFrom(now);
        trial.limits.set(escort, MAX_LIMIT);
        return book.planAll(trial, week) - without;
    }

    public double kept() {
        int held = now.held.sum();
        int told = held + now.missed.sum();
        if (told == 0) {
            return 1.0;
        }
        return (double) held / (double) told;
    }

    // ---- text

    public int append(int value) throws IllegalArgumentException, IllegalStateException {
        if (value < 0 || value > MAX_BYTE) {
            throw new IllegalArgumentException("value is out of range");
        }
        if (text.length >= MAX_BYTES) {
            throw new IllegalStateException("the text has 100 bytes");
        }
        return text.addByte(value);
    }

    public int clearText() {
        int before = text.length;
        text.length = 0;
        return before;
    }

    public int carryOut() {
        int error = text.readAll();
        if (error != NONE) {
            return SYNTAX_ERROR_BASE - error;
        }
        save();
        for (int i = 0; i < text.count; i++) {
            if (!carryOutOne(text.kinds.get(i), text.numbers.get(i), text.weeks.get(i), text.hours.get(i))) {
                return i;
            }
        }
        return text.count;
    }

    // ---- state

    public int undo() throws IllegalStateException {
        if (savedCount < 1 || savedCount > saved.length) {
            throw new IllegalStateException("there is no saved state");
        }
        savedCount--;
        now.copyFrom(saved[savedCount]);
        return savedCount;
    }

    public long digest() {
        long h = 31 * DIGEST_START + text.length;
        for (int what = 0; what <= MAX_VALUE; what++) {
            h = 31 * h + value(what);
        }
        for (int i = 0; i < now.orders; i++) {
            h = digestOfOrder(h, i);
        }
        for (int i = 0; i < now.escorts; i++) {
            for (int what = 0; what <= MAX_ESCORT_FACT; what++) {
                h = 31 * h + escort(i, what);
            }
        }
        for (int i = 0; i < now.venues; i++) {
            h = 31 * h + now.rooms.get(i);
        }
        for (int place = 0; place < now.meetings; place++) {
            h = digestOfMeeting(h, place);
        }
        h = 31 * h + settledIn();
        return 31 * h + savedCount;
    }

    private long digestOfOrder(long start, int order) {
        long h = start;
        for (int what = 0; what <= MAX_ORDER_FACT; what++) {
            h = 31 * h + order(order, what);
        }
        for (int week = 0; week < WEEKS; week++) {
            h = 31 * h + now.hoursIn(order, week);
        }
        return h;
    }

    private long digestOfMeeting(long start, int place) {
        long h = 31 * start + now.fact(place, State.NUMBER);
        for (int what = 0; what <= MAX_MEETING_FACT; what++) {
            h = 31 * h + now.fact(place, what);
        }
        return h;
    }

    /** Carries out one order of the text without saving a state; answers false where its call would throw. */
    private boolean carryOutOne(int kind, int number, int week, int hours) {
        switch (kind) {
            case 'c':
                if (!now.hasOrder(number) || !mayChange(week, hours)) {
                    return false;
                }
                now.setHoursFrom(number, week, hours);
                return true;
            case 'p':
                if (now.isOver(week)) {
                    return false;
                }
                book.planAll(now, week);
                return true;
            case 'h':
                return settleIfOpen(number, HELD);
            case 'm':
                return settleIfOpen(number, MISSED);
            case 'w':
                if (now.isLastWeek()) {
                    return false;
                }
                now.settleWeek(MISSED);
                now.beginNextWeek();
                return true;
            default:
                return false;
        }
    }

    private boolean settleIfOpen(int meeting, int status) {
        int place = now.placeOf(meeting);
        if (place == NONE || !now.isOpen(place)) {
            return false;
        }
        now.settle(place, status);
        return true;
    }

    private int reasonAgainst(int order, int week, int slot, int escort, int venue) {
        if (now.isOver(week)) {
            return WEEK_IS_OVER;
        }
        book.open(now, week);
        int reason = book.conflict(now, order, slot, escort, venue);
        if (reason == CAN_BE_PLANNED && now.isFull()) {
            return ALL_KEPT;
        }
        return reason;
    }

    /** The rows of the oldest state are used again for the newest one. */
    private void save() {
        if (savedCount >= saved.length) {
            State oldest = saved[0];
            for (int i = 1; i < saved.length; i++) {
                saved[i - 1] = saved[i];
            }
            saved[saved.length - 1] = oldest;
            savedCount = saved.length - 1;
        }
        if (savedCount < 0) {
            return;
        }
        State place = saved[savedCount];
        if (place != null) {
            place.copyFrom(now);
            savedCount++;
        }
    }

    private boolean mayChange(int week, int hours) {
        return isWeek(week) && !now.isOver(week) && isHours(hours);
    }

    private static boolean isHours(int hours) {
        return hours >= 0 && hours <= MAX_HOURS;
    }

    private static boolean isWeek(int week) {
        return week >= 0 && week < WEEKS;
    }

    private static boolean isSlot(int slot) {
        return slot >= 0 && slot < SLOTS;
    }

    private static boolean isSetOfSlots(int slots) {
        return slots >= 0 && slots <= ALL_SLOTS;
    }

    /** Numbers at places that are looked at before they are used: the one spot where an array is touched. */
    private static final class Row {
        private final int[] cells;

        Row(int length) {
            cells = new int[length > 0 ? length : 0];
        }

        int get(int place) {
            return place >= 0 && place < cells.length ? cells[place] : 0;
        }

        void set(int place, int value) {
            if (place >= 0 && place < cells.length) {
                cells[place] = value;
            }
        }

        void add(int place, int more) {
            if (place >= 0 && place < cells.length) {
                cells[place] += more;
            }
        }

        /** Puts bits into a set of bits. */
        void mark(int place, int bits) {
            if (place >= 0 && place < cells.length) {
                cells[place] |= bits;
            }
        }

        int sum() {
            int sum = 0;
            for (int i = 0; i < cells.length; i++) {
                sum += cells[i];
            }
            return sum;
        }

        void clear() {
            for (int i = 0; i < cells.length; i++) {
                cells[i] = 0;
            }
        }

        void copyFrom(Row other) {
            if (other != null) {
                System.arraycopy(other.cells, 0, cells, 0, Math.min(other.cells.length, cells.length));
            }
        }
    }

    /** All that undo() brings back. */
    private static final class State {
        /** The facts of a meeting, in the order in which meeting() numbers them; its own number is behind them. */
        static final int ORDER = 0;
        static final int WEEK = 1;
        static final int SLOT = 2;
        static final int ESCORT = 3;
        static final int VENUE = 4;
        static final int STATUS = 5;
        static final int NUMBER = 6;
        static final int FACTS = 7;

        int orders;
        int escorts;
        int venues;
        int meetings;
        int week;
        int nextNumber;
        final Row hours = new Row(MAX_ORDERS * WEEKS);
        final Row allowed = new Row(MAX_ORDERS);
        /** Counted apart from the kept meetings, because those that are not kept any more still count. */
        final Row held = new Row(MAX_ORDERS);
        final Row missed = new Row(MAX_ORDERS);
        final Row slots = new Row(MAX_ESCORTS);
        final Row limits = new Row(MAX_ESCORTS);
        final Row heldWith = new Row(MAX_ESCORTS);
        final Row rooms = new Row(MAX_VENUES);
        final Row facts = new Row(MAX_KEPT * FACTS);

        void copyFrom(State other) {
            if (other == null) {
                return;
            }
            orders = other.orders;
            escorts = other.escorts;
            venues = other.venues;
            meetings = other.meetings;
            week = other.week;
            nextNumber = other.nextNumber;
            hours.copyFrom(other.hours);
            allowed.copyFrom(other.allowed);
            held.copyFrom(other.held);
            missed.copyFrom(other.missed);
            slots.copyFrom(other.slots);
            limits.copyFrom(other.limits);
            heldWith.copyFrom(other.heldWith);
            rooms.copyFrom(other.rooms);
            facts.copyFrom(other.facts);
        }

        boolean hasOrder(int number) {
            return number >= 0 && number < orders;
        }

        boolean hasEscort(int number) {
            return number >= 0 && number < escorts;
        }

        boolean hasVenue(int number) {
            return number >= 0 && number < venues;
        }

        boolean hasAllVenues(int set) {
            return set >= 0 && set < 1 << venues;
        }

        boolean isOver(int someWeek) {
            return someWeek < week;
        }

        boolean isLastWeek() {
            return week >= WEEKS - 1;
        }

        boolean isFull() {
            return meetings >= MAX_KEPT;
        }

        int enterOrder(int weekly, int set) {
            int number = orders;
            orders++;
            setHoursFrom(number, week, weekly);
            allowed.set(number, set);
            return number;
        }

        int enterEscort(int set, int limit) {
            int number = escorts;
            escorts++;
            slots.set(number, set);
            limits.set(number, limit);
            return number;
        }

        int enterVenue(int count) {
            int number = venues;
            venues++;
            rooms.set(number, count);
            return number;
        }

        int hoursIn(int order, int someWeek) {
            return hours.get(order * WEEKS + someWeek);
        }

        void setHoursFrom(int order, int firstWeek, int weekly) {
            for (int w = firstWeek; w < WEEKS; w++) {
                hours.set(order * WEEKS + w, weekly);
            }
        }

        int hoursUpTo(int order, int lastWeek) {
            int sum = 0;
            for (int w = 0; w <= lastWeek && w < WEEKS; w++) {
                sum += hoursIn(order, w);
            }
            return sum;
        }

        int plannedUpTo(int order, int lastWeek) {
            int count = 0;
            for (int i = 0; i < meetings; i++) {
                if (fact(i, ORDER) == order && fact(i, STATUS) == PLANNED && fact(i, WEEK) <= lastWeek) {
                    count++;
                }
            }
            return count;
        }

        int debt(int order, int lastWeek) {
            int served = held.get(order) + plannedUpTo(order, lastWeek);
            return Math.max(0, hoursUpTo(order, lastWeek) - served);
        }

        int debtOfAll(int lastWeek) {
            int sum = 0;
            for (int i = 0; i < orders; i++) {
                sum += debt(i, lastWeek);
            }
            return sum;
        }

        int meetingsWith(int escort, int someWeek) {
            int count = 0;
            for (int i = 0; i < meetings; i++) {
                if (fact(i, ESCORT) == escort && takesPlaceIn(i, someWeek)) {
                    count++;
                }
            }
            return count;
        }

        int fact(int place, int what) {
            return facts.get(place * FACTS + what);
        }

        boolean takesPlaceIn(int place, int someWeek) {
            return fact(place, WEEK) == someWeek && fact(place, STATUS) != MISSED;
        }

        /** Whether it can still be told of a meeting that it was held or missed. */
        boolean isOpen(int place) {
            return fact(place, STATUS) == PLANNED && fact(place, WEEK) == week;
        }

        int placeOf(int number) {
            for (int i = 0; i < meetings; i++) {
                if (fact(i, NUMBER) == number) {
                    return i;
                }
            }
            return NONE;
        }

        int keepMeeting(int order, int someWeek, int slot, int escort, int venue) {
            int first = meetings * FACTS;
            facts.set(first + ORDER, order);
            facts.set(first + WEEK, someWeek);
            facts.set(first + SLOT, slot);
            facts.set(first + ESCORT, escort);
            facts.set(first + VENUE, venue);
            facts.set(first + STATUS, PLANNED);
            facts.set(first + NUMBER, nextNumber);
            meetings++;
            nextNumber++;
            return nextNumber - 1;
        }

        void moveMeeting(int from, int to) {
            for (int what = 0; what < FACTS; what++) {
                facts.set(to * FACTS + what, fact(from, what));
            }
        }

        /** The others close up, so that they stay in the order of their numbers. */
        void dropMeeting(int place) {
            for (int i = place + 1; i < meetings; i++) {
                moveMeeting(i, i - 1);
            }
            meetings--;
        }

        void settle(int place, int status) {
            facts.set(place * FACTS + STATUS, status);
            int order = fact(place, ORDER);
            if (status == HELD) {
                held.add(order, 1);
                heldWith.add(fact(place, ESCORT), 1);
            } else {
                missed.add(order, 1);
            }
        }

        int settleWeek(int status) {
            int count = 0;
            for (int i = 0; i < meetings; i++) {
                if (isOpen(i)) {
                    settle(i, status);
                    count++;
                }
            }
            return count;
        }

        void beginNextWeek() {
            week++;
            int left = 0;
            for (int i = 0; i < meetings; i++) {
                if (fact(i, WEEK) >= week - WEEKS_KEPT) {
                    moveMeeting(i, left);
                    left++;
                }
            }
            meetings = left;
        }
    }

    /** What is taken in one week; planning asks so often that the kept meetings are gone through only once. */
    private static final class WeekBook {
        /** Planning a week never frees anything, so each round plans a meeting or gives an order up for good. */
        private static final int MAX_ROUNDS = MAX_KEPT + MAX_ORDERS;

        final Row daysOfOrder = new Row(MAX_ORDERS);
        final Row slotsOfEscort = new Row(MAX_ESCORTS);
        final Row meetingsOfEscort = new Row(MAX_ESCORTS);
        final Row roomsTaken = new Row(MAX_VENUES * SLOTS);
        final Row debts = new Row(MAX_ORDERS);
        int slot;
        int escort;
        int venue;

        void open(State state, int week) {
            daysOfOrder.clear();
            slotsOfEscort.clear();
            meetingsOfEscort.clear();
            roomsTaken.clear();
            for (int i = 0; i < state.meetings; i++) {
                if (state.takesPlaceIn(i, week)) {
                    take(state.fact(i, State.ORDER), state.fact(i, State.SLOT),
                            state.fact(i, State.ESCORT), state.fact(i, State.VENUE));
                }
            }
        }

        void take(int order, int atSlot, int withEscort, int atVenue) {
            daysOfOrder.mark(order, 1 << (atSlot / SLOTS_A_DAY));
            slotsOfEscort.mark(withEscort, 1 << atSlot);
            meetingsOfEscort.add(withEscort, 1);
            roomsTaken.add(atVenue * SLOTS + atSlot, 1);
        }

        int conflict(State state, int order, int atSlot, int withEscort, int atVenue) {
            if (!isIn(state.allowed.get(order), atVenue)) {
                return VENUE_NOT_ALLOWED;
            }
            if (isIn(daysOfOrder.get(order), atSlot / SLOTS_A_DAY)) {
                return DAY_TAKEN;
            }
            if (!isIn(state.slots.get(withEscort), atSlot)) {
                return SLOT_NOT_OFFERED;
            }
            if (isIn(slotsOfEscort.get(withEscort), atSlot)) {
                return ESCORT_TAKEN;
            }
            if (meetingsOfEscort.get(withEscort) >= state.limits.get(withEscort)) {
                return LIMIT_REACHED;
            }
            return roomsLeft(state, atVenue, atSlot) > 0 ? CAN_BE_PLANNED : NO_FREE_ROOM;
        }

        int roomsLeft(State state, int atVenue, int atSlot) {
            return state.rooms.get(atVenue) - roomsTaken.get(atVenue * SLOTS + atSlot);
        }

        int planAll(State state, int week) {
            open(state, week);
            for (int i = 0; i < state.orders; i++) {
                debts.set(i, state.debt(i, week));
            }
            int planned = 0;
            for (int round = 0; round < MAX_ROUNDS && !state.isFull(); round++) {
                int order = greatestDebt(state);
                if (order == NONE) {
                    return planned;
                }
                if (search(state, order)) {
                    state.keepMeeting(order, week, slot, escort, venue);
                    take(order, slot, escort, venue);
                    debts.add(order, -1);
                    planned++;
                } else {
                    debts.set(order, 0);
                }
            }
            return planned;
        }

        private int greatestDebt(State state) {
            int best = NONE;
            int most = 0;
            for (int i = 0; i < state.orders; i++) {
                if (debts.get(i) > most) {
                    best = i;
                    most = debts.get(i);
                }
            }
            return best;
        }

        /** Leaves the meeting that it finds in slot, escort and venue, so that no object is made for it. */
        boolean search(State state, int order) {
            for (int t = 0; t < SLOTS; t++) {
                if (!isIn(daysOfOrder.get(order), t / SLOTS_A_DAY)) {
                    slot = t;
                    escort = freestEscort(state, t);
                    venue = escort == NONE ? NONE : firstVenue(state, order, t);
                    if (venue != NONE) {
                        return true;
                    }
                }
            }
            return false;
        }

        private int freestEscort(State state, int atSlot) {
            int best = NONE;
            int fewest = MAX_LIMIT;
            for (int i = 0; i < state.escorts; i++) {
                int count = meetingsOfEscort.get(i);
                if (count < fewest && count < state.limits.get(i)
                        && isIn(state.slots.get(i) & ~slotsOfEscort.get(i), atSlot)) {
                    best = i;
                    fewest = count;
                }
            }
            return best;
        }

        private int firstVenue(State state, int order, int atSlot) {
            for (int i = 0; i < state.venues; i++) {
                if (isIn(state.allowed.get(order), i) && roomsLeft(state, i, atSlot) > 0) {
                    return i;
                }
            }
            return NONE;
        }

        private static boolean isIn(int set, int bit) {
            return (set >> bit & 1) == 1;
        }
    }

    /** The text, and the orders that were read from it. */
    private static final class OrderText {
        private static final int MAX_NUMBER = 99;
        /** The shortest order has two bytes. */
        private static final int MAX_ORDERS_READ = MAX_BYTES / 2;

        private final Row bytes = new Row(MAX_BYTES);
        final Row kinds = new Row(MAX_ORDERS_READ);
        final Row numbers = new Row(MAX_ORDERS_READ);
        final Row weeks = new Row(MAX_ORDERS_READ);
        final Row hours = new Row(MAX_ORDERS_READ);
        int length;
        int count;
        /** The place that is read; where reading stops, the place of the syntax error. */
        private int place;

        int addByte(int value) {
            bytes.set(length, value);
            length++;
            return length;
        }

        /** Answers the place of the syntax error, or NONE. */
        int readAll() {
            count = 0;
            place = 0;
            for (int i = 0; i < MAX_BYTES && place < length; i++) {
                if (!readOrder() || !readSign(';')) {
                    return place;
                }
                count++;
            }
            return NONE;
        }

        private boolean readOrder() {
            int kind = byteHere();
            kinds.set(count, kind);
            switch (kind) {
                case 'c':
                    place++;
                    return readDigit(MAX_ORDERS - 1, numbers) && readNumber(WEEKS - 1, weeks)
                            && readSign(':') && readDigit(MAX_HOURS, hours);
                case 'p':
                    place++;
                    return readNumber(WEEKS - 1, weeks);
                case 'h':
                case 'm':
                    place++;
                    return readNumber(MAX_NUMBER, numbers);
                case 'w':
                    place++;
                    return true;
                default:
                    return false;
            }
        }

        private boolean readSign(int sign) {
            if (byteHere() != sign) {
                return false;
            }
            place++;
            return true;
        }

        private boolean readDigit(int max, Row into) {
            if (!isDigitHere() || byteHere() - '0' > max) {
                return false;
            }
            into.set(count, byteHere() - '0');
            place++;
            return true;
        }

        /** A digit too many is the error even behind a number that is out of range. */
        private boolean readNumber(int max, Row into) {
            int start = place;
            if (!isDigitHere()) {
                return false;
            }
            int number = byteHere() - '0';
            place++;
            if (isDigitHere()) {
                number = number * 10 + byteHere() - '0';
                place++;
            }
            if (isDigitHere()) {
                return false;
            }
            if (number > max) {
                place = start;
                return false;
            }
            into.set(count, number);
            return true;
        }

        private boolean isDigitHere() {
            return byteHere() >= '0' && byteHere() <= '9';
        }

        private int byteHere() {
            return place < length ? bytes.get(place) : NONE;
        }
    }
}

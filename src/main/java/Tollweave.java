/**
 * A network of roads with tolls: readings of plates at gates make journeys, journeys make fares,
 * fares are billed to wallets and shared among the owners of the roads.
 *
 * Journeys and fares are never kept from call to call, because a late reading, a strike, a new
 * road, a new rate or a new span may change those of long ago: they are found anew when asked.
 */
public final class Tollweave {
    /** None. */
    public static final int NONE = -1;

    private static final int MOST_GATES = 12;
    private static final int MOST_ROADS = 24;
    private static final int MOST_LENGTH = 50;
    private static final int OWNERS = 4;
    private static final int KINDS = 3;
    private static final int MOST_RATE = 100;
    private static final int MOST_PERCENT = 300;
    private static final int MOST_CENTS = 100000;
    private static final int PLATES = 10;
    private static final int HOLDERS = 6;
    private static final int MOST_SPANS = 20;
    private static final int MOST_READINGS = 100;
    private static final int LAST_MINUTE = 100000;
    private static final int MOST_PASSED = 1440;
    private static final int MINUTES_OF_DOUBLE = 5;
    private static final int MINUTES_TO_END = 60;

    private final Roads roads;
    private final Tariff tariff;
    private final Plates plates;
    private final Readings readings;
    private final Journeys journeys;
    private final Accounts accounts;
    private int now;

    /** Creates a network without gates. */
    public Tollweave() {
        roads = new Roads();
        tariff = new Tariff();
        plates = new Plates();
        readings = new Readings();
        journeys = new Journeys();
        accounts = new Accounts();
        now = 0;
    }

    // ---- roads and rates

    /** Builds a gate and returns its number. */
    public int gate() throws IllegalStateException {
        if (roads.gateCount >= MOST_GATES) {
            throw new IllegalStateException("there are as many gates as there can be");
        }
        return roads.addGate();
    }

    /** Builds a road and returns its number. */
    public int road(int one, int other, int length, int owner)
            throws IndexOutOfBoundsException, IllegalArgumentException, IllegalStateException {
        requireGate(one);
        requireGate(other);
        requireRange(length, 1, MOST_LENGTH);
        requireRange(owner, 0, OWNERS - 1);
        if (one == other) {
            throw new IllegalArgumentException("a road joins two gates");
        }
        if (roads.roadCount >= MOST_ROADS) {
            throw new IllegalStateException("there are as many roads as there can be");
        }
        return roads.addRoad(one, other, length, owner);
    }

    /** Tells what a class pays. */
    public void rate(int kind, int rate, int percent) throws IllegalArgumentException {
        requireRange(kind, 0, KINDS - 1);
        requireRange(rate, 0, MOST_RATE);
        requireRange(percent, 0, MOST_PERCENT);
        tariff.rate[kind] = rate;
        tariff.busyPercent[kind] = percent;
    }

    /** Tells the most that a journey costs, and returns the most before. */
    public int most(int cents) throws IllegalArgumentException {
        requireRange(cents, 0, MOST_CENTS);
        int before = tariff.mostCents;
        tariff.mostCents = cents;
        return before;
    }

    // ---- plates and wallets

    /** Tells the class and the holder of a plate. */
    public void plate(int plate, int kind, int holder)
            throws IndexOutOfBoundsException, IllegalArgumentException {
        requirePlate(plate);
        requireRange(kind, 0, KINDS - 1);
        if (holder != NONE) {
            requireRange(holder, 0, HOLDERS - 1);
        }
        plates.kind[plate] = kind;
        plates.holder[plate] = holder;
    }

    /** Puts cents into a wallet, and returns what it has then. */
    public long top(int holder, int cents)
            throws IndexOutOfBoundsException, IllegalArgumentException {
        requireHolder(holder);
        requireRange(cents, 1, MOST_CENTS);
        accounts.wallet[holder] += cents;
        return accounts.wallet[holder];
    }

    /** Exempts a plate for a span of minutes, and returns how many spans there are. */
    public int exempt(int plate, int from, int to)
            throws IndexOutOfBoundsException, IllegalArgumentException, IllegalStateException {
        requirePlate(plate);
        requireRange(from, 0, LAST_MINUTE);
        requireRange(to, from, LAST_MINUTE);
        if (plates.spanCount >= MOST_SPANS) {
            throw new IllegalStateException("there are as many spans as there can be");
        }
        return plates.addSpan(plate, from, to);
    }

    // ---- readings

    /** Reads a plate, and returns the number of the reading. */
    public int read(int gate, int plate, int minute)
            throws IndexOutOfBoundsException, IllegalArgumentException, IllegalStateException {
        requireGate(gate);
        requirePlate(plate);
        requireRange(minute, 0, now);
        if (readings.count >= MOST_READINGS) {
            throw new IllegalStateException("there are as many readings as there can be");
        }
        return readings.add(gate, plate, minute);
    }

    /** Strikes a reading. */
    public void strike(int reading) throws IndexOutOfBoundsException, IllegalStateException {
        requireReading(reading);
        if (readings.isStruck[reading]) {
            throw new IllegalStateException("the reading is struck");
        }
        readings.isStruck[reading] = true;
    }

    /** Lets minutes pass, and returns now. */
    public int pass(int minutes) throws IllegalArgumentException, IllegalStateException {
        requireRange(minutes, 1, MOST_PASSED);
        if (now + minutes > LAST_MINUTE) {
            throw new IllegalStateException("now would be behind the last minute");
        }
        now += minutes;
        return now;
    }

    /** Bills, and returns what is taken from all, less what is paid back. */
    public long bill() {
        long taken = 0;
        accounts.forgetShares();
        for (int plate = 0; plate < PLATES; plate++) {
            findJourneys(plate);
            long due = journeys.sumFares(now, tariff.mostCents);
            taken += accounts.charge(plate, plates.holder[plate], due);
            for (int owner = 0; owner < OWNERS; owner++) {
                accounts.got[owner] += journeys.sumShares(owner, now, tariff.mostCents);
            }
        }
        return taken;
    }

    // ---- what is asked

    /** Returns the distance of two gates, or NONE. */
    public int distance(int one, int other) throws IndexOutOfBoundsException {
        requireGate(one);
        requireGate(other);
        return roads.hasWay(one, other) ? roads.distance[one][other] : NONE;
    }

    /** Returns a road of the way from one gate to another one, or NONE. */
    public int way(int one, int other, int place) throws IndexOutOfBoundsException {
        requireGate(one);
        requireGate(other);
        if (place < 0) {
            throw new IndexOutOfBoundsException("a place is from 0 on");
        }
        return roads.roadOfWay(one, other, place);
    }

    /** Returns how many journeys a plate has, over or not. */
    public int journeys(int plate) throws IndexOutOfBoundsException {
        requirePlate(plate);
        findJourneys(plate);
        return journeys.count;
    }

    /** Tells of a journey of a plate. */
    public int journey(int plate, int journey, int what)
            throws IndexOutOfBoundsException, IllegalArgumentException {
        requirePlate(plate);
        findJourneys(plate);
        if (journey < 0 || journey >= journeys.count) {
            throw new IndexOutOfBoundsException("there is no such journey");
        }
        requireRange(what, 0, 4 + OWNERS);
        switch (what) {
            case 0: return journeys.firstMinute[journey];
            case 1: return journeys.lastMinute[journey];
            case 2: return journeys.counting[journey];
            case 3: return journeys.fareOf(journey, tariff.mostCents);
            case 4: return journeys.isOver(journey, now) ? 1 : 0;
            default: return journeys.shareOf(journey, what - 5, tariff.mostCents);
        }
    }

    /** Tells of a reading. */
    public int ofReading(int reading, int what)
            throws IndexOutOfBoundsException, IllegalArgumentException {
        requireReading(reading);
        requireRange(what, 0, 5);
        switch (what) {
            case 0: return readings.gateOf[reading];
            case 1: return readings.plateOf[reading];
            case 2: return readings.minuteOf[reading];
            case 3: return readings.isStruck[reading] ? 1 : 0;
            case 4: return isDoubleNow(reading) ? 1 : 0;
            default: return journeyNow(reading);
        }
    }

    /** Returns what is due of a plate. */
    public long due(int plate) throws IndexOutOfBoundsException {
        requirePlate(plate);
        findJourneys(plate);
        return journeys.sumFares(now, tariff.mostCents);
    }

    /** Returns what was billed from a plate, less what was paid back. */
    public long billed(int plate) throws IndexOutOfBoundsException {
        requirePlate(plate);
        return accounts.billed[plate];
    }

    /** Returns what is in a wallet. */
    public long wallet(int holder) throws IndexOutOfBoundsException {
        requireHolder(holder);
        return accounts.wallet[holder];
    }

    /** Returns what a plate itself has. */
    public long own(int plate) throws IndexOutOfBoundsException {
        requirePlate(plate);
        return accounts.own[plate];
    }

    /** Returns what an owner has got, or what is due to it. */
    public long share(int owner, boolean isDue) throws IndexOutOfBoundsException {
        if (owner < 0 || owner >= OWNERS) {
            throw new IndexOutOfBoundsException("there is no such owner");
        }
        return isDue ? dueToOwner(owner) : accounts.got[owner];
    }

    // ---- what arguments must be

    private void requireGate(int gate) {
        if (gate < 0 || gate >= roads.gateCount) {
            throw new IndexOutOfBoundsException("there is no such gate");
        }
    }

    private void requireReading(int reading) {
        if (reading < 0 || reading >= readings.count) {
            throw new IndexOutOfBoundsException("there is no such reading");
        }
    }

    private static void requirePlate(int plate) {
        if (plate < 0 || plate >= PLATES) {
            throw new IndexOutOfBoundsException("there is no such plate");
        }
    }

    private static void requireHolder(int holder) {
        if (holder < 0 || holder >= HOLDERS) {
            throw new IndexOutOfBoundsException("there is no such holder");
        }
    }

    private static void requireRange(int value, int least, int greatest) {
        if (value < least || value > greatest) {
            throw new IllegalArgumentException("an argument is out of range");
        }
    }

    // ---- journeys out of readings

    private void findJourneys(int plate) {
        journeys.forgetAll();
        int ahead = NONE;
        for (int place = 0; place < readings.count; place++) {
            int reading = readings.inOrder[place];
            if (readings.plateOf[reading] == plate && !readings.isStruck[reading]) {
                ahead = placeReading(reading, ahead);
            }
        }
    }

    /** Puts a reading to its journey, and returns the one that counts and is ahead of the next. */
    private int placeReading(int reading, int ahead) {
        int minute = readings.minuteOf[reading];
        if (ahead == NONE) {
            journeys.begin(reading, minute);
            return reading;
        }
        int journey = journeys.journeyOf[ahead];
        if (isDoubleOf(reading, ahead)) {
            journeys.putDouble(reading, journey);
            return ahead;
        }
        if (goesOnFrom(ahead, reading)) {
            journeys.goOn(reading, journey, minute);
            payWay(ahead, reading, journey);
        } else {
            journeys.begin(reading, minute);
        }
        return reading;
    }

    private boolean isDoubleOf(int reading, int ahead) {
        return readings.gateOf[reading] == readings.gateOf[ahead]
                && readings.minutesBetween(ahead, reading) <= MINUTES_OF_DOUBLE;
    }

    private boolean goesOnFrom(int ahead, int reading) {
        int from = readings.gateOf[ahead];
        int to = readings.gateOf[reading];
        if (!roads.hasWay(from, to)) {
            return false;
        }
        int distance = roads.distance[from][to];
        int minutes = readings.minutesBetween(ahead, reading);
        return minutes >= distance && minutes <= 3 * distance + 10;
    }

    private void payWay(int ahead, int reading, int journey) {
        int plate = readings.plateOf[ahead];
        int minute = readings.minuteOf[ahead];
        if (plates.isExempt(plate, minute)) {
            return;
        }
        int goal = readings.gateOf[reading];
        int at = readings.gateOf[ahead];
        for (int step = 0; step < MOST_GATES; step++) {
            int road = roads.roadTowards(at, goal);
            if (road == NONE) {
                return;
            }
            int cents = tariff.centsFor(roads.length[road], plates.kind[plate], minute);
            journeys.pay(journey, roads.owner[road], cents);
            at = roads.otherEnd(road, at);
        }
    }

    private boolean isDoubleNow(int reading) {
        if (readings.isStruck[reading]) {
            return false;
        }
        findJourneys(readings.plateOf[reading]);
        return journeys.isDouble[reading];
    }

    private int journeyNow(int reading) {
        if (readings.isStruck[reading]) {
            return NONE;
        }
        findJourneys(readings.plateOf[reading]);
        return journeys.journeyOf[reading];
    }

    private long dueToOwner(int owner) {
        long due = 0;
        for (int plate = 0; plate < PLATES; plate++) {
            findJourneys(plate);
            due += journeys.sumShares(owner, now, tariff.mostCents);
        }
        return due;
    }

    /** The graph of gates and roads, with the distances of all gates. */
    private static final class Roads {
        /** Above each distance, and so low that sums of two do not overflow. */
        private static final int FAR = 1000000;

        private final int[] one;
        private final int[] other;
        private final int[] length;
        private final int[] owner;
        private final int[][] distance;
        private int gateCount;
        private int roadCount;

        Roads() {
            one = new int[MOST_ROADS];
            other = new int[MOST_ROADS];
            length = new int[MOST_ROADS];
            owner = new int[MOST_ROADS];
            distance = new int[MOST_GATES][MOST_GATES];
            for (int from = 0; from < MOST_GATES; from++) {
                for (int to = 0; to < MOST_GATES; to++) {
                    distance[from][to] = from == to ? 0 : FAR;
                }
            }
            gateCount = 0;
            roadCount = 0;
        }

        int addGate() {
            int gate = gateCount;
            gateCount++;
            return gate;
        }

        int addRoad(int oneEnd, int otherEnd, int roadLength, int roadOwner) {
            int road = roadCount;
            one[road] = oneEnd;
            other[road] = otherEnd;
            length[road] = roadLength;
            owner[road] = roadOwner;
            roadCount++;
            shortenDistances(oneEnd, otherEnd, roadLength);
            return road;
        }

        /**
         * A new road shortens a distance only by being gone once, so one round over all pairs is
         * enough; what it has shortened already does no harm, since it is a length that can be gone.
         */
        private void shortenDistances(int oneEnd, int otherEnd, int roadLength) {
            for (int from = 0; from < gateCount; from++) {
                for (int to = 0; to < gateCount; to++) {
                    int forth = distance[from][oneEnd] + roadLength + distance[otherEnd][to];
                    int back = distance[from][otherEnd] + roadLength + distance[oneEnd][to];
                    int shorter = Math.min(forth, back);
                    distance[from][to] = Math.min(distance[from][to], shorter);
                }
            }
        }

        boolean hasWay(int from, int to) {
            return distance[from][to] < FAR;
        }

        int roadOfWay(int from, int goal, int place) {
            int at = from;
            for (int step = 0; step < MOST_GATES; step++) {
                int road = roadTowards(at, goal);
                if (road == NONE || step == place) {
                    return road;
                }
                at = otherEnd(road, at);
            }
            return NONE;
        }

        /** The road by which the way goes on; NONE at the goal, and where no way leads to it. */
        int roadTowards(int at, int goal) {
            for (int road = 0; road < roadCount; road++) {
                int next = otherEnd(road, at);
                if (next != NONE && distance[next][goal] + length[road] == distance[at][goal]) {
                    return road;
                }
            }
            return NONE;
        }

        int otherEnd(int road, int at) {
            if (one[road] == at) {
                return other[road];
            }
            return other[road] == at ? one[road] : NONE;
        }
    }

    /** What the classes pay, and the most that a journey costs. */
    private static final class Tariff {
        private final int[] rate;
        private final int[] busyPercent;
        private int mostCents;

        Tariff() {
            rate = new int[KINDS];
            busyPercent = new int[KINDS];
            for (int kind = 0; kind < KINDS; kind++) {
                rate[kind] = 10;
                busyPercent[kind] = 150;
            }
            mostCents = 5000;
        }

        int centsFor(int length, int kind, int minute) {
            int percent = isBusy(minute) ? busyPercent[kind] : 100;
            return length * rate[kind] * percent / 100;
        }

        private static boolean isBusy(int minute) {
            int hour = minute / 60 % 24;
            return hour == 7 || hour == 8 || hour == 16 || hour == 17;
        }
    }

    /** The classes, holders and exempt spans of the plates. */
    private static final class Plates {
        private final int[] kind;
        private final int[] holder;
        private final int[] spanPlate;
        private final int[] spanFrom;
        private final int[] spanTo;
        private int spanCount;

        Plates() {
            kind = new int[PLATES];
            holder = new int[PLATES];
            for (int plate = 0; plate < PLATES; plate++) {
                holder[plate] = NONE;
            }
            spanPlate = new int[MOST_SPANS];
            spanFrom = new int[MOST_SPANS];
            spanTo = new int[MOST_SPANS];
            spanCount = 0;
        }

        int addSpan(int plate, int from, int to) {
            spanPlate[spanCount] = plate;
            spanFrom[spanCount] = from;
            spanTo[spanCount] = to;
            spanCount++;
            return spanCount;
        }

        boolean isExempt(int plate, int minute) {
            for (int span = 0; span < spanCount; span++) {
                if (spanPlate[span] == plate && spanFrom[span] <= minute
                        && minute <= spanTo[span]) {
                    return true;
                }
            }
            return false;
        }
    }

    /** All readings by number, and their order by minutes. */
    private static final class Readings {
        private final int[] gateOf;
        private final int[] plateOf;
        private final int[] minuteOf;
        private final boolean[] isStruck;
        private final int[] inOrder;
        private int count;

        Readings() {
            gateOf = new int[MOST_READINGS];
            plateOf = new int[MOST_READINGS];
            minuteOf = new int[MOST_READINGS];
            isStruck = new boolean[MOST_READINGS];
            inOrder = new int[MOST_READINGS];
            count = 0;
        }

        int add(int gate, int plate, int minute) {
            int reading = count;
            gateOf[reading] = gate;
            plateOf[reading] = plate;
            minuteOf[reading] = minute;
            int place = count;
            while (place > 0 && minuteOf[inOrder[place - 1]] > minute) {
                inOrder[place] = inOrder[place - 1];
                place--;
            }
            inOrder[place] = reading;
            count++;
            return reading;
        }

        int minutesBetween(int former, int later) {
            return minuteOf[later] - minuteOf[former];
        }
    }

    /** The journeys of one plate at a time: its rows are used again for the next plate. */
    private static final class Journeys {
        private final int[] firstMinute;
        private final int[] lastMinute;
        private final int[] counting;
        private final int[][] toPay;
        private final int[] journeyOf;
        private final boolean[] isDouble;
        private int count;

        Journeys() {
            firstMinute = new int[MOST_READINGS];
            lastMinute = new int[MOST_READINGS];
            counting = new int[MOST_READINGS];
            toPay = new int[OWNERS][MOST_READINGS];
            journeyOf = new int[MOST_READINGS];
            isDouble = new boolean[MOST_READINGS];
            count = 0;
        }

        void forgetAll() {
            count = 0;
        }

        void begin(int reading, int minute) {
            int journey = count;
            firstMinute[journey] = minute;
            lastMinute[journey] = minute;
            counting[journey] = 1;
            for (int owner = 0; owner < OWNERS; owner++) {
                toPay[owner][journey] = 0;
            }
            journeyOf[reading] = journey;
            isDouble[reading] = false;
            count++;
        }

        void goOn(int reading, int journey, int minute) {
            lastMinute[journey] = minute;
            counting[journey]++;
            journeyOf[reading] = journey;
            isDouble[reading] = false;
        }

        void putDouble(int reading, int journey) {
            journeyOf[reading] = journey;
            isDouble[reading] = true;
        }

        void pay(int journey, int owner, int cents) {
            toPay[owner][journey] += cents;
        }

        boolean isOver(int journey, int now) {
            return now - lastMinute[journey] >= MINUTES_TO_END;
        }

        private int wholeOf(int journey) {
            int whole = 0;
            for (int owner = 0; owner < OWNERS; owner++) {
                whole += toPay[owner][journey];
            }
            return whole;
        }

        int fareOf(int journey, int mostCents) {
            return Math.min(wholeOf(journey), mostCents);
        }

        int shareOf(int journey, int owner, int mostCents) {
            int whole = wholeOf(journey);
            if (whole <= mostCents) {
                return toPay[owner][journey];
            }
            if (owner != ownerOfTheMost(journey)) {
                return cutShare(journey, owner, mostCents, whole);
            }
            // What is left of rounding down the other shares is this owner's own share and the rest.
            int left = mostCents;
            for (int another = 0; another < OWNERS; another++) {
                if (another != owner) {
                    left -= cutShare(journey, another, mostCents, whole);
                }
            }
            return left;
        }

        private int cutShare(int journey, int owner, int mostCents, int whole) {
            if (whole <= 0) {
                return 0;
            }
            // The product may be above what an int holds.
            return (int) ((long) toPay[owner][journey] * mostCents / whole);
        }

        private int ownerOfTheMost(int journey) {
            int best = 0;
            for (int owner = 1; owner < OWNERS; owner++) {
                if (toPay[owner][journey] > toPay[best][journey]) {
                    best = owner;
                }
            }
            return best;
        }

        long sumFares(int now, int mostCents) {
            long sum = 0;
            for (int journey = 0; journey < count; journey++) {
                if (isOver(journey, now)) {
                    sum += fareOf(journey, mostCents);
                }
            }
            return sum;
        }

        long sumShares(int owner, int now, int mostCents) {
            long sum = 0;
            for (int journey = 0; journey < count; journey++) {
                if (isOver(journey, now)) {
                    sum += shareOf(journey, owner, mostCents);
                }
            }
            return sum;
        }
    }

    /** What wallets and plates have, what was billed, and what owners have got. */
    private static final class Accounts {
        private final long[] wallet;
        private final long[] own;
        private final long[] billed;
        private final long[] got;

        Accounts() {
            wallet = new long[HOLDERS];
            own = new long[PLATES];
            billed = new long[PLATES];
            got = new long[OWNERS];
        }

        void forgetShares() {
            for (int owner = 0; owner < OWNERS; owner++) {
                got[owner] = 0;
            }
        }

        /** Takes what is due and not yet billed, or pays back; returns what it took. */
        long charge(int plate, int holder, long due) {
            long cents = due - billed[plate];
            billed[plate] = due;
            if (holder == NONE) {
                own[plate] -= cents;
            } else {
                wallet[holder] -= cents;
            }
            return cents;
        }
    }
}

/** A river with its stairs, boats and watermen; the promises it keeps are told in ../shared/DOC.md. */
public final class WaterMen {
    public static final int BAD = -1, NOT = -2, FULL = -3;

    private static final int MINUTES_A_DAY = 720, MINUTES_AN_HOUR = 60, HOURS_A_DAY = 12, DAYS_A_WEEK = 7;
    private static final int DAYS = 500, HOURS = DAYS * HOURS_A_DAY, LAST_TIME = DAYS * MINUTES_A_DAY - 1;
    private static final int MOST_MINUTES = 1440;

    private static final int MOST_STAIRS = 12, MOST_MILES = 60, HIGHEST_LEVEL = 90;
    private static final int NO_LEVEL = -1000;

    private static final int MEN = 40, NOBODY = 0, BOUND = 1, FREE = 2, DEAD = 3;
    private static final int MOST_GAPS = 6, DAYS_TO_SERVE = 300, LACK = -100;
    private static final int NOWHERE = -1, NO_MAN = -1, NO_DAY = -1;

    private static final int MOST_BOATS = 20, THERE = 0, ON_A_WAY = 1, SUNK = 2;
    private static final int MOST_TRIPS = 600, MOST_PAID = 1000000, BOX_PART = 20;

    private static final int MOST_BYTES = 400, MOST_DIGITS = 5;
    private static final int MOST_ORDERS = 20, MOST_SAME_LINES = 12, NUMBERS_A_LINE = 3;
    private static final int NO_FAULT = -1, FAULT = -100, NO_LINE = -1, NO_FARE = -1, MOST_FARE = 1000000;

    private static final int MOST_PENSIONERS = 30, MOST_PENSION = 10000, LAST_END = 9999;
    private static final int DAYS_BETWEEN_PAYS = 100, PAYS_FORETOLD = 40;

    /** Where BAD's number is an answer too, the document lets this one stand for it. */
    private static final int BAD_BESIDE_NONE = -2;
    private static final int REFUSED = -10;

    private final River river = new River();
    private final Man[] men = new Man[MEN];
    private final Boat[] boats = new Boat[MOST_BOATS];
    private final Order[] orders = new Order[MOST_ORDERS];
    private final Trip[] trips = new Trip[MOST_TRIPS];
    private final Tape tape = new Tape();
    private final Box box = new Box();
    private int boatCount, orderCount, tripCount;
    private int now;
    private int joins;
    /** A text with a fault leaves its order here for the next text, so that faults make no new objects. */
    private Order draft = new Order();

    public WaterMen() {
        for (int i = 0; i < MEN; i++) {
            men[i] = new Man();
        }
    }

    // ---- the river

    public int stairs(int miles) {
        if (miles < 0 || miles > MOST_MILES || miles <= river.highest()) {
            return BAD;
        }
        return river.stairCount >= MOST_STAIRS ? FULL : river.addStairs(miles);
    }

    public int bridge(int above) {
        if (above != NOWHERE && (above < 0 || above >= river.stairCount - 1)) {
            return BAD;
        }
        river.bridgeAbove = above;
        return 1;
    }

    public int level(int day, int hour, int v) {
        if (!isDay(day) || !isHour(hour) || !isLevel(v)) {
            return BAD;
        }
        river.tell(day, hour, v);
        return 1;
    }

    public int table(int place, int v) {
        if (!isHour(place) || !isLevel(v)) {
            return NO_LEVEL;
        }
        int was = river.table[place];
        river.table[place] = v;
        return was;
    }

    public int flow(int day, int hour) {
        return isDay(day) && isHour(hour) ? river.flowIn(day, hour) : NO_LEVEL;
    }

    public int frost(int day, int is) {
        if (!isDay(day) || day < today() || is < 0 || is > 1) {
            return BAD;
        }
        int was = river.isFrozen(day) ? 1 : 0;
        river.frozen[day] = is == 1;
        return was;
    }

    // ---- men, boats

    public int free(int man) {
        Man who = manAt(man);
        if (who == null) {
            return BAD;
        }
        if (who.state != NOBODY) {
            return NOT;
        }
        who.state = FREE;
        return 1;
    }

    public int bind(int man, int master) {
        Man who = manAt(man);
        Man lord = manAt(master);
        if (who == null || lord == null) {
            return BAD;
        }
        if (who.state != NOBODY || lord.state != FREE) {
            return NOT;
        }
        who.state = BOUND;
        who.bond = new Bond(master, today());
        return 1;
    }

    public int absent(int man, int a, int b) {
        Man who = manAt(man);
        if (who == null || a < 0 || a > b || b > today()) {
            return BAD;
        }
        Bond bond = who.bond;
        if (bond != null && a < bond.since) {
            return BAD;
        }
        if (bond == null || who.state != BOUND || bond.meetsGap(a, b)) {
            return NOT;
        }
        return bond.gapCount >= MOST_GAPS ? FULL : bond.addGap(a, b);
    }

    public int served(int man) {
        Man who = manAt(man);
        if (who == null) {
            return BAD;
        }
        Bond bond = who.bond;
        return bond == null || who.state != BOUND ? NOT : bond.daysServed(today());
    }

    public int pass(int man) {
        int days = served(man);
        Man who = manAt(man);
        if (days < 0 || who == null) {
            return days;
        }
        if (days < DAYS_TO_SERVE) {
            return LACK - (DAYS_TO_SERVE - days);
        }
        who.state = FREE;
        return 1;
    }

    public int man(int man, int what) {
        Man who = manAt(man);
        if (who == null) {
            return BAD_BESIDE_NONE;
        }
        switch (what) {
            case 0: return who.state;
            case 1: return who.bond != null && who.state == BOUND ? who.bond.master : NO_MAN;
            case 2: return who.turnStairs;
            case 3: return placeInTurns(who);
            case 4: return who.coins;
            case 5: return who.isOnWay(now) ? 1 : 0;
            case 6: return who.tripCount;
            default: return BAD_BESIDE_NONE;
        }
    }

    public int boat(int oars, int stairs) {
        if (!isOars(oars) || !river.hasStairs(stairs)) {
            return BAD;
        }
        if (boatCount >= MOST_BOATS) {
            return FULL;
        }
        boats[boatCount] = new Boat(oars, stairs);
        boatCount++;
        return boatCount - 1;
    }

    public int craft(int boat, int what) {
        Boat it = boatAt(boat);
        if (it == null) {
            return BAD;
        }
        switch (what) {
            case 0: return it.stairs;
            case 1: return it.oars;
            case 2: return it.thereFrom;
            case 3: return it.stateAt(now) == ON_A_WAY ? it.rower : NO_MAN;
            case 4: return it.stateAt(now);
            default: return BAD;
        }
    }

    public int join(int stairs, int man) {
        Man who = manAt(man);
        if (who == null || !river.hasStairs(stairs)) {
            return BAD;
        }
        if (who.state != FREE || who.isOnWay(now) || who.turnStairs != NOWHERE) {
            return NOT;
        }
        who.turnStairs = stairs;
        who.turnTicket = joins;
        joins++;
        return placeInTurns(who) + 1;
    }

    public int leave(int man) {
        Man who = manAt(man);
        if (who == null) {
            return BAD;
        }
        if (who.turnStairs == NOWHERE) {
            return NOT;
        }
        who.turnStairs = NOWHERE;
        return 1;
    }

    // ---- orders

    public int feed(int a, int b, int c, int d, int e) {
        if (!tape.hasRoomForFive()) {
            return FULL;
        }
        tape.append(a);
        tape.append(b);
        tape.append(c);
        tape.append(d);
        tape.append(e);
        return tape.length;
    }

    public int end(int n) {
        if (n < 0 || n > tape.length) {
            return BAD;
        }
        tape.length = n;
        return n;
    }

    public int order(int from) {
        if (!isDay(from)) {
            return BAD;
        }
        if (orderCount >= MOST_ORDERS) {
            return FULL;
        }
        int fault = tape.readInto(draft);
        tape.length = 0;
        if (fault != NO_FAULT) {
            return FAULT - fault;
        }
        draft.inForceFrom = from;
        draft.madeOn = today();
        orders[orderCount] = draft;
        orderCount++;
        draft = new Order();
        return orderCount - 1;
    }

    public int inForce(int day, int k) {
        return isDay(day) && isDay(k) ? numberInForce(day, k) : BAD;
    }

    public int fare(int order, int from, int to, int hours, int oars) {
        Order by = orderAt(order);
        if (by == null || !river.hasStairs(from) || !river.hasStairs(to) || from == to) {
            return BAD;
        }
        if (hours < 0 || hours >= HOURS || !isOars(oars)) {
            return BAD;
        }
        int price = priceOf(by, from, to, hours, oars);
        return price == NO_FARE ? NOT : price;
    }

    // ---- rowing

    public int why(int boat, int man, int to) {
        Boat it = boatAt(boat);
        Man who = manAt(man);
        if (it == null || who == null || !mayGoTo(it, to)) {
            return BAD;
        }
        return hindrance(it, who, to);
    }

    public int row(int boat, int man, int to, int paid) {
        Boat it = boatAt(boat);
        Man who = manAt(man);
        if (it == null || who == null || !mayGoTo(it, to) || paid < 0 || paid > MOST_PAID) {
            return BAD;
        }
        int reason = hindrance(it, who, to);
        if (reason != 0) {
            return REFUSED - reason;
        }
        if (tripCount >= MOST_TRIPS) {
            return FULL;
        }
        Trip trip = new Trip(boat, man, now, paid);
        trip.from = it.stairs;
        trip.to = to;
        trip.arrival = now + minutesOfWay(it, to);
        trips[tripCount] = trip;
        it.setOut(trip, tripCount);
        who.setOut(trip.arrival);
        takeMoney(who, paid);
        tripCount++;
        return tripCount - 1;
    }

    public int minutes(int n) {
        if (n < 1 || n > MOST_MINUTES || n > LAST_TIME - now) {
            return BAD;
        }
        int lastDay = (now + n) / MINUTES_A_DAY;
        for (int day = today() + 1; day <= lastDay; day++) {
            // The Sunday ends ahead of the new day: its rest is in the box when the pensions are paid.
            partPot(day - 1);
            box.payPensions(day);
        }
        now += n;
        return now;
    }

    public int sink(int boat, int pension, int end) {
        Boat it = boatAt(boat);
        if (it == null || !isPension(pension, end)) {
            return BAD;
        }
        Man who = manAt(it.rower);
        if (it.stateAt(now) != ON_A_WAY || who == null) {
            return NOT;
        }
        if (box.pensionerCount >= MOST_PENSIONERS) {
            return FULL;
        }
        it.sunk = true;
        who.state = DEAD;
        who.busyUntil = now;
        Trip last = tripAt(it.lastTrip);
        if (last != null) {
            last.sank = true;
        }
        return box.admit(pension, end);
    }

    public int trip(int trip, int what) {
        Trip it = tripAt(trip);
        if (it == null) {
            return BAD_BESIDE_NONE;
        }
        switch (what) {
            case 0: return it.boat;
            case 1: return it.man;
            case 2: return it.from;
            case 3: return it.to;
            case 4: return it.start;
            case 5: return it.arrival;
            case 6: return it.paid;
            case 7: return it.sank ? 1 : 0;
            default: return BAD_BESIDE_NONE;
        }
    }

    public int due(int trip, int k) {
        Trip it = tripAt(trip);
        return it == null || !isDay(k) ? BAD_BESIDE_NONE : dueOf(it, k);
    }

    public int over(int man, int k) {
        if (manAt(man) == null || !isDay(k)) {
            return BAD;
        }
        int sum = 0;
        for (int i = 0; i < tripCount; i++) {
            Trip it = tripAt(i);
            if (it != null && it.man == man) {
                sum += overpaid(it, k);
            }
        }
        return sum;
    }

    // ---- the box

    public int pension(int coins, int end) {
        if (!isPension(coins, end)) {
            return BAD;
        }
        return box.pensionerCount >= MOST_PENSIONERS ? FULL : box.admit(coins, end);
    }

    public int foretold() {
        int day = box.firstShortDay(today());
        return day == NO_DAY ? NOT : day;
    }

    public int pensioner(int i, int what) {
        Pensioner it = box.pensionerAt(i);
        if (it == null) {
            return BAD;
        }
        switch (what) {
            case 0: return it.pension;
            case 1: return it.end;
            case 2: return it.got;
            default: return BAD;
        }
    }

    public int count(int what) {
        switch (what) {
            case 0: return river.stairCount;
            case 1: return boatCount;
            case 2: return tripCount;
            case 3: return orderCount;
            case 4: return now;
            case 5: return menThatAre(FREE);
            case 6: return menThatAre(BOUND);
            case 7: return menThatAre(DEAD);
            case 8: return box.pensionerCount;
            case 9: return tape.length;
            default: return BAD;
        }
    }

    public int coins(int what) {
        switch (what) {
            case 0: return box.coins;
            case 1: return box.pot;
            case 2: return coinsOfMen();
            case 3: return box.allPaid;
            case 4: return box.allPensions;
            default: return BAD;
        }
    }

    // ---- what numbers may be

    private int today() {
        return now / MINUTES_A_DAY;
    }

    private static boolean isDay(int day) {
        return day >= 0 && day < DAYS;
    }

    private static boolean isHour(int hour) {
        return hour >= 0 && hour < HOURS_A_DAY;
    }

    private static boolean isLevel(int v) {
        return v >= -HIGHEST_LEVEL && v <= HIGHEST_LEVEL;
    }

    private static boolean isOars(int oars) {
        return oars == 1 || oars == 2;
    }

    private static boolean isPension(int coins, int end) {
        return coins >= 1 && coins <= MOST_PENSION && end >= 0 && end <= LAST_END;
    }

    private static boolean isSunday(int day) {
        return day % DAYS_A_WEEK == 0;
    }

    private Man manAt(int i) {
        return i >= 0 && i < MEN ? men[i] : null;
    }

    private Boat boatAt(int i) {
        return i >= 0 && i < boatCount ? boats[i] : null;
    }

    private Order orderAt(int i) {
        return i >= 0 && i < orderCount ? orders[i] : null;
    }

    private Trip tripAt(int i) {
        return i >= 0 && i < tripCount ? trips[i] : null;
    }

    // ---- men and their turns

    /** The tickets tell who came first, so that nobody has to be moved when one leaves. */
    private int placeInTurns(Man who) {
        if (who.turnStairs == NOWHERE) {
            return NOWHERE;
        }
        int ahead = 0;
        for (int i = 0; i < MEN; i++) {
            Man other = men[i];
            if (other != null && other.turnStairs == who.turnStairs && other.turnTicket < who.turnTicket) {
                ahead++;
            }
        }
        return ahead;
    }

    private boolean hasTurns(int stairs) {
        for (int i = 0; i < MEN; i++) {
            Man one = men[i];
            if (one != null && one.turnStairs == stairs) {
                return true;
            }
        }
        return false;
    }

    private boolean mustWait(Man who, int stairs) {
        if (who.turnStairs == stairs) {
            return placeInTurns(who) != 0;
        }
        return hasTurns(stairs);
    }

    private int menThatAre(int state) {
        int sum = 0;
        for (int i = 0; i < MEN; i++) {
            Man one = men[i];
            if (one != null && one.state == state) {
                sum++;
            }
        }
        return sum;
    }

    private int coinsOfMen() {
        int sum = 0;
        for (int i = 0; i < MEN; i++) {
            Man one = men[i];
            sum += one == null ? 0 : one.coins;
        }
        return sum;
    }

    // ---- orders and what is due by them

    private int numberInForce(int day, int known) {
        for (int i = orderCount - 1; i >= 0; i--) {
            Order one = orderAt(i);
            if (one != null && one.madeOn <= known && one.inForceFrom <= day) {
                return i;
            }
        }
        return NOT;
    }

    private int priceOf(Order by, int from, int to, int hours, int oars) {
        int day = hours / HOURS_A_DAY;
        int hour = hours % HOURS_A_DAY;
        int drift = river.drift(from, to, day, hour);
        return by.price(river.distance(from, to), drift, day, hour, oars);
    }

    private int dueOf(Trip trip, int known) {
        Order by = orderAt(numberInForce(trip.start / MINUTES_A_DAY, known));
        Boat boat = boatAt(trip.boat);
        if (by == null || boat == null) {
            return NO_FARE;
        }
        return priceOf(by, trip.from, trip.to, trip.start / MINUTES_AN_HOUR, boat.oars);
    }

    private int overpaid(Trip trip, int known) {
        int due = dueOf(trip, known);
        return due == NO_FARE ? 0 : Math.max(0, trip.paid - due);
    }

    // ---- rowing and its money

    private boolean mayGoTo(Boat boat, int to) {
        return !boat.sunk && river.hasStairs(to) && to != boat.stairs;
    }

    /** WHY's number, 0 if nothing hinders. */
    private int hindrance(Boat boat, Man who, int to) {
        int day = today();
        if (river.isFrozen(day)) {
            return 1;
        }
        if (boat.stateAt(now) == ON_A_WAY) {
            return 2;
        }
        if (who.state != FREE || who.isOnWay(now)) {
            return 3;
        }
        if (mustWait(who, boat.stairs)) {
            return 4;
        }
        Order by = orderAt(numberInForce(day, day));
        if (by == null || priceOf(by, boat.stairs, to, now / MINUTES_AN_HOUR, boat.oars) == NO_FARE) {
            return 5;
        }
        if (river.passesBridge(boat.stairs, to) && by.shutsBridge(hourNow(), river.flowIn(day, hourNow()))) {
            return 6;
        }
        return minutesOfWay(boat, to) > LAST_TIME - now ? 7 : 0;
    }

    private int hourNow() {
        return now / MINUTES_AN_HOUR % HOURS_A_DAY;
    }

    private int minutesOfWay(Boat boat, int to) {
        int drift = river.drift(boat.stairs, to, today(), hourNow());
        int aMile = drift > 0 ? 7 : drift < 0 ? 14 : 10;
        int all = river.distance(boat.stairs, to) * aMile;
        return Math.max(1, boat.oars == 2 ? all * 2 / 3 : all);
    }

    private void takeMoney(Man who, int paid) {
        int toBox = paid / BOX_PART;
        box.allPaid += paid;
        box.receive(today(), toBox);
        if (isSunday(today())) {
            box.pot += paid - toBox;
            who.lastSunday = today();
        } else {
            who.coins += paid - toBox;
        }
    }

    private void partPot(int day) {
        if (!isSunday(day)) {
            return;
        }
        int sharers = 0;
        for (int i = 0; i < MEN; i++) {
            Man one = men[i];
            if (one != null && one.lastSunday == day) {
                sharers++;
            }
        }
        if (sharers == 0) {
            return;
        }
        int share = box.pot / sharers;
        for (int i = 0; i < MEN; i++) {
            Man one = men[i];
            if (one != null && one.lastSunday == day) {
                one.coins += share;
            }
        }
        box.receive(day, box.pot - share * sharers);
        box.pot = 0;
    }

    /** The stairs, the bridge, the water and the frost. */
    private static final class River {
        final int[] milesUp = new int[MOST_STAIRS];
        final int[] table = new int[HOURS_A_DAY];
        final int[][] rows = new int[DAYS][];
        final boolean[] frozen = new boolean[DAYS];
        int stairCount;
        int bridgeAbove = NOWHERE;

        boolean isFrozen(int day) {
            return isDay(day) && frozen[day];
        }

        boolean hasStairs(int stairs) {
            return stairs >= 0 && stairs < stairCount;
        }

        int highest() {
            return stairCount == 0 ? -1 : milesUp[stairCount - 1];
        }

        int addStairs(int miles) {
            milesUp[stairCount] = miles;
            stairCount++;
            return stairCount - 1;
        }

        int distance(int from, int to) {
            return Math.abs(milesUp[to] - milesUp[from]);
        }

        boolean passesBridge(int from, int to) {
            return bridgeAbove != NOWHERE && Math.min(from, to) <= bridgeAbove && Math.max(from, to) > bridgeAbove;
        }

        void tell(int day, int hour, int v) {
            int[] row = rows[day];
            if (row == null) {
                row = new int[HOURS_A_DAY];
                for (int i = 0; i < HOURS_A_DAY; i++) {
                    row[i] = table[(i + day) % HOURS_A_DAY];
                }
                rows[day] = row;
            }
            row[hour] = v;
        }

        int height(int day, int hour) {
            int[] row = day < DAYS ? rows[day] : null;
            return row == null ? table[(hour + day) % HOURS_A_DAY] : row[hour];
        }

        int flowIn(int day, int hour) {
            int next = hour == HOURS_A_DAY - 1 ? height(day + 1, 0) : height(day, hour + 1);
            return next - height(day, hour);
        }

        /** 1: the water goes as the way does; -1: it goes the other way; 0: it stands. */
        int drift(int from, int to, int day, int hour) {
            int flow = flowIn(day, hour);
            if (flow == 0) {
                return 0;
            }
            return flow > 0 == to > from ? 1 : -1;
        }
    }

    private static final class Man {
        int state = NOBODY;
        /** Null: he was never bound. It is kept when he is free. */
        Bond bond;
        int turnStairs = NOWHERE;
        int turnTicket;
        int coins;
        int busyUntil;
        int tripCount;
        /** The last Sunday on which he began a trip. */
        int lastSunday = NO_DAY;

        boolean isOnWay(int now) {
            return now < busyUntil;
        }

        void setOut(int arrival) {
            busyUntil = arrival;
            turnStairs = NOWHERE;
            tripCount++;
        }
    }

    /** An apprentice's service. */
    private static final class Bond {
        final int master;
        final int since;
        final int[] gapFrom = new int[MOST_GAPS];
        final int[] gapTo = new int[MOST_GAPS];
        int gapCount;

        Bond(int master, int since) {
            this.master = master;
            this.since = since;
        }

        /** Whether days a to b have one in common with a gap, or are beside it. */
        boolean meetsGap(int a, int b) {
            for (int i = 0; i < gapCount; i++) {
                if (a <= gapTo[i] + 1 && b >= gapFrom[i] - 1) {
                    return true;
                }
            }
            return false;
        }

        int addGap(int a, int b) {
            gapFrom[gapCount] = a;
            gapTo[gapCount] = b;
            gapCount++;
            return gapCount;
        }

        int daysServed(int today) {
            int days = today - since;
            for (int i = 0; i < gapCount; i++) {
                // A gap may hold today, which is not counted as served anyway.
                days -= Math.min(gapTo[i] + 1, today) - gapFrom[i];
            }
            return days;
        }
    }

    private static final class Boat {
        final int oars;
        int stairs;
        int thereFrom;
        int rower = NO_MAN;
        int lastTrip = -1;
        boolean sunk;

        Boat(int oars, int stairs) {
            this.oars = oars;
            this.stairs = stairs;
        }

        int stateAt(int now) {
            if (sunk) {
                return SUNK;
            }
            return now < thereFrom ? ON_A_WAY : THERE;
        }

        void setOut(Trip trip, int number) {
            stairs = trip.to;
            thereFrom = trip.arrival;
            rower = trip.man;
            lastTrip = number;
        }
    }

    private static final class Trip {
        final int boat;
        final int man;
        final int start;
        final int paid;
        int from;
        int to;
        int arrival;
        boolean sank;

        Trip(int boat, int man, int start, int paid) {
            this.boat = boat;
            this.man = man;
            this.start = start;
            this.paid = paid;
        }
    }

    /** What one text orders. NO_LINE stands where it has no such line. */
    private static final class Order {
        int madeOn;
        int inForceFrom;
        /** Each line's a, b and n. */
        final int[] fares = new int[MOST_SAME_LINES * NUMBERS_A_LINE];
        final int[] hours = new int[MOST_SAME_LINES * NUMBERS_A_LINE];
        /** By kind of line: the number of a line that may stand once. */
        final int[] single = new int[Tape.KINDS];
        int fareCount;
        int hourCount;
        int bridgeOpens;
        int bridgeShuts;

        /** A text is read into what may hold the lines of one with a fault. */
        void clear() {
            for (int i = 0; i < Tape.KINDS; i++) {
                single[i] = NO_LINE;
            }
            fareCount = 0;
            hourCount = 0;
        }

        boolean takesLine(int kind) {
            if (kind == Tape.FARE_LINE) {
                return fareCount < MOST_SAME_LINES;
            }
            if (kind == Tape.HOUR_LINE) {
                return hourCount < MOST_SAME_LINES;
            }
            return single[kind] == NO_LINE;
        }

        void addLine(int kind, int a, int b, int n) {
            if (kind == Tape.FARE_LINE) {
                setLine(fares, fareCount, a, b, n);
                fareCount++;
            } else if (kind == Tape.HOUR_LINE) {
                setLine(hours, hourCount, a, b, n);
                hourCount++;
            } else {
                single[kind] = a;
                if (kind == Tape.BRIDGE_LINE) {
                    bridgeOpens = a;
                    bridgeShuts = b;
                }
            }
        }

        static void setLine(int[] lines, int i, int a, int b, int n) {
            lines[i * NUMBERS_A_LINE] = a;
            lines[i * NUMBERS_A_LINE + 1] = b;
            lines[i * NUMBERS_A_LINE + 2] = n;
        }

        static boolean lineHolds(int[] lines, int i, int v) {
            return lines[i * NUMBERS_A_LINE] <= v && v <= lines[i * NUMBERS_A_LINE + 1];
        }

        int price(int miles, int drift, int day, int hour, int oars) {
            int price = basePrice(miles);
            if (price == NO_FARE) {
                return NO_FARE;
            }
            if (drift > 0) {
                price = scaled(price, single[Tape.WITH_LINE]);
            } else if (drift < 0) {
                price = scaled(price, single[Tape.AGAINST_LINE]);
            }
            for (int i = 0; i < hourCount; i++) {
                if (lineHolds(hours, i, hour)) {
                    price = scaled(price, hours[i * NUMBERS_A_LINE + 2]);
                }
            }
            if (isSunday(day)) {
                price = scaled(price, single[Tape.SUNDAY_LINE]);
            }
            if (oars == 2) {
                price = scaled(price, single[Tape.OARS_LINE]);
            }
            return Math.max(price, single[Tape.LEAST_LINE]);
        }

        int basePrice(int miles) {
            for (int i = 0; i < fareCount; i++) {
                if (lineHolds(fares, i, miles)) {
                    return fares[i * NUMBERS_A_LINE + 2];
                }
            }
            return NO_FARE;
        }

        static int scaled(int price, int hundredths) {
            if (hundredths == NO_LINE) {
                return price;
            }
            long scaled = (long) price * hundredths / 100;
            return scaled > MOST_FARE ? MOST_FARE : (int) scaled;
        }

        boolean shutsBridge(int hour, int flow) {
            if (single[Tape.BRIDGE_LINE] != NO_LINE && (hour < bridgeOpens || hour > bridgeShuts)) {
                return true;
            }
            int head = single[Tape.HEAD_LINE];
            return head != NO_LINE && Math.abs(flow) > head;
        }
    }

    /** The bytes of an order's text, and what reads them: one word, number or other byte at a time. */
    private static final class Tape {
        static final int FARE_LINE = 0, HOUR_LINE = 1, WITH_LINE = 2, AGAINST_LINE = 3, SUNDAY_LINE = 4;
        static final int LEAST_LINE = 5, BRIDGE_LINE = 6, HEAD_LINE = 7, OARS_LINE = 8, KINDS = 9;

        static final int AT_END = 0, WORD = 1, NUMBER = 2, LINE_END = 3, FOREIGN = 4;

        final byte[] bytes = new byte[MOST_BYTES];
        int length;
        /** What is being read: its sort, its first byte's place, the place behind it, its value if a number. */
        int sort;
        int start;
        int behind;
        int value;

        boolean hasRoomForFive() {
            return length <= MOST_BYTES - 20;
        }

        void append(int four) {
            if (length > MOST_BYTES - 4) {
                return;
            }
            bytes[length] = (byte) (four >>> 24);
            bytes[length + 1] = (byte) (four >>> 16);
            bytes[length + 2] = (byte) (four >>> 8);
            bytes[length + 3] = (byte) four;
            length += 4;
        }

        /** The text's fault, or NO_FAULT: then the order holds all its lines. */
        int readInto(Order order) {
            order.clear();
            behind = 0;
            step();
            // Every line takes bytes, so there are fewer lines than bytes.
            for (int line = 0; line <= MOST_BYTES; line++) {
                if (!readLine(order)) {
                    return start;
                }
                if (sort == AT_END) {
                    return NO_FAULT;
                }
            }
            return start;
        }

        /** False: no text goes on with what is being read now. */
        boolean readLine(Order order) {
            int kind = sort == WORD ? kindOfLine() : NO_LINE;
            if (kind == NO_LINE || !order.takesLine(kind)) {
                return false;
            }
            boolean hasRange = kind == FARE_LINE || kind == HOUR_LINE || kind == BRIDGE_LINE;
            boolean hasRate = kind == FARE_LINE || kind == HOUR_LINE;
            step();
            int a = value;
            if (!stepOverNumber()) {
                return false;
            }
            int b = 0;
            if (hasRange) {
                if (!stepOverWord("to")) {
                    return false;
                }
                b = value;
                if (!stepOverNumber()) {
                    return false;
                }
            }
            int n = 0;
            if (hasRate) {
                if (!stepOverWord("is")) {
                    return false;
                }
                n = value;
                if (!stepOverNumber()) {
                    return false;
                }
            }
            if (sort != LINE_END) {
                return false;
            }
            order.addLine(kind, a, b, n);
            step();
            return true;
        }

        boolean stepOverNumber() {
            if (sort != NUMBER) {
                return false;
            }
            step();
            return true;
        }

        boolean stepOverWord(String word) {
            if (sort != WORD || !isWord(word)) {
                return false;
            }
            step();
            return true;
        }

        int kindOfLine() {
            if (isWord("fare")) {
                return FARE_LINE;
            }
            if (isWord("hour")) {
                return HOUR_LINE;
            }
            if (isWord("with")) {
                return WITH_LINE;
            }
            if (isWord("against")) {
                return AGAINST_LINE;
            }
            if (isWord("sunday")) {
                return SUNDAY_LINE;
            }
            if (isWord("least")) {
                return LEAST_LINE;
            }
            if (isWord("bridge")) {
                return BRIDGE_LINE;
            }
            if (isWord("head")) {
                return HEAD_LINE;
            }
            return isWord("oars") ? OARS_LINE : NO_LINE;
        }

        boolean isWord(String word) {
            if (behind - start != word.length()) {
                return false;
            }
            for (int i = 0; i < word.length(); i++) {
                if (bytes[start + i] != word.charAt(i)) {
                    return false;
                }
            }
            return true;
        }

        void step() {
            start = behind;
            while (start < length && bytes[start] == ' ') {
                start++;
            }
            behind = start;
            value = 0;
            if (start >= length) {
                sort = AT_END;
            } else if (isLetter(bytes[start])) {
                sort = WORD;
                passLetters();
            } else if (isDigit(bytes[start])) {
                passDigits();
                sort = behind - start > MOST_DIGITS ? FOREIGN : NUMBER;
            } else {
                sort = bytes[start] == ';' ? LINE_END : FOREIGN;
                behind++;
            }
        }

        void passLetters() {
            while (behind < length && isLetter(bytes[behind])) {
                behind++;
            }
        }

        void passDigits() {
            while (behind < length && isDigit(bytes[behind])) {
                value = value * 10 + (bytes[behind] - '0');
                behind++;
            }
        }

        static boolean isLetter(byte b) {
            return b >= 'a' && b <= 'z';
        }

        static boolean isDigit(byte b) {
            return b >= '0' && b <= '9';
        }
    }

    private static final class Pensioner {
        final int pension;
        final int end;
        int got;

        Pensioner(int pension, int end) {
            this.pension = pension;
            this.end = end;
        }
    }

    /** The poor box, the Sunday's pot and those who live on the box. */
    private static final class Box {
        int coins;
        int pot;
        int allPaid;
        int allPensions;
        /** By day: what came by trips and by a Sunday's pot. */
        final int[] income = new int[DAYS];
        final Pensioner[] pensioners = new Pensioner[MOST_PENSIONERS];
        int pensionerCount;

        void receive(int day, int amount) {
            coins += amount;
            if (isDay(day)) {
                income[day] += amount;
            }
        }

        Pensioner pensionerAt(int i) {
            return i >= 0 && i < pensionerCount ? pensioners[i] : null;
        }

        int admit(int pension, int end) {
            pensioners[pensionerCount] = new Pensioner(pension, end);
            pensionerCount++;
            return pensionerCount - 1;
        }

        void payPensions(int day) {
            if (day % DAYS_BETWEEN_PAYS != 0) {
                return;
            }
            for (int i = 0; i < pensionerCount; i++) {
                Pensioner one = pensionerAt(i);
                if (one != null && day < one.end && one.pension <= coins) {
                    coins -= one.pension;
                    one.got += one.pension;
                    allPensions += one.pension;
                }
            }
        }

        int firstShortDay(int today) {
            long comes = 0;
            for (int day = Math.max(0, today - DAYS_BETWEEN_PAYS); day <= today; day++) {
                comes += income[day];
            }
            long left = coins;
            int day = today - today % DAYS_BETWEEN_PAYS;
            for (int i = 0; i < PAYS_FORETOLD; i++) {
                day += DAYS_BETWEEN_PAYS;
                left += comes - owedOn(day);
                if (left < 0) {
                    return day;
                }
            }
            return NO_DAY;
        }

        int owedOn(int day) {
            int sum = 0;
            for (int i = 0; i < pensionerCount; i++) {
                Pensioner one = pensionerAt(i);
                if (one != null && day < one.end) {
                    sum += one.pension;
                }
            }
            return sum;
        }
    }
}

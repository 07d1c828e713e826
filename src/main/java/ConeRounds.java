/**
 * Ice cream vans on their rounds: wishes by streets, hours and heat, stock that melts, plans,
 * stands judged by law, holders of pitches, two vans that choose unseen, and wholesalers' bills.
 */
public final class ConeRounds {
    private static final int LOW = -1000000;
    private static final int BEYOND = LOW - 1;
    private static final int NONE = LOW - 2;
    private static final int STATE = LOW - 3;
    private static final int FULL = LOW - 4;
    private static final int KIND = LOW - 5;
    private static final int MOST_FINDINGS = 5;

    private static final int MOST_STREETS = 6;
    private static final int MOST_VANS = 4;
    private static final int MOST_STANDS = 24;
    private static final int MOST_BILLS = 12;
    private static final int MOST_WAITING = 12;
    private static final int HOURS = 12;
    private static final int MOST_PLAN_HOURS = 6;

    private static final int MOST_WAY = 3;
    private static final int MOST_WISH = 200;
    private static final int MOST_HEAT = 4;
    private static final int MOST_STOCK = 2000;
    private static final int ALL_STREETS = 63;
    private static final int MOST_LAWFUL_SECONDS = 60;
    private static final int MOST_CHIME = 99;
    private static final int MOST_CREDIT = 60;
    private static final int MOST_COINS = 10000;
    private static final int MOST_BILL_DAY = 1000;
    private static final int MOST_OWED_DAY = 2000;
    private static final int ALL_BILLS = -1;

    private static final int KIND_VAN = 0;
    private static final int KIND_BIKE = 1;
    private static final int KIND_CART = 2;

    private static final int PLACE = 100;
    private static final int PAIR = 10;
    private static final int NOBODY = -1;

    private final int[] findings = new int[MOST_FINDINGS + 1];
    private final Town town = new Town();
    private final Law rules = new Law();
    private final Van[] vans = new Van[MOST_VANS];
    private int vanCount = 0;
    private final Trail trail = new Trail();
    private final Trail best = new Trail();
    private final Stands stands = new Stands();
    private final Bills bills = new Bills();
    private final int[] waiting = new int[MOST_WAITING];
    private int waitingCount = 0;

    public ConeRounds() {
    }

    // ---- streets and vans

    public int street(int school) {
        if (school != 0 && school != 1) {
            return finding(BEYOND);
        }
        if (town.isFull()) {
            return finding(FULL);
        }
        return town.add(school == 1);
    }

    public int way(int a, int b, int v) {
        if (!town.has(a) || !town.has(b) || a == b || !isWithin(v, MOST_WAY)) {
            return finding(BEYOND);
        }
        int before = town.wayBetween(a, b);
        town.setWay(a, b, v);
        return before;
    }

    public int wish(int street, int hour, int v) {
        if (!town.has(street) || !isHour(hour) || !isWithin(v, MOST_WISH)) {
            return finding(BEYOND);
        }
        int before = town.wishAt(street, hour);
        town.setWish(street, hour, v);
        return before;
    }

    public int heat(int v) {
        if (!isWithin(v, MOST_HEAT)) {
            return finding(BEYOND);
        }
        int before = town.heat;
        town.heat = v;
        return before;
    }

    public int van(int kind) {
        if (!isKind(kind)) {
            return finding(BEYOND);
        }
        if (vanCount >= MOST_VANS) {
            return finding(FULL);
        }
        vans[vanCount] = newVan(kind);
        vanCount++;
        return vanCount - 1;
    }

    public int as(int van, int kind) {
        Van asked = vanNumber(van);
        if (asked == null || !isKind(kind)) {
            return finding(BEYOND);
        }
        if (!isOfKind(asked, kind)) {
            return finding(KIND);
        }
        return asked.stock;
    }

    public int stock(int van, int v) {
        Van asked = vanNumber(van);
        if (asked == null || !isWithin(v, MOST_STOCK)) {
            return finding(BEYOND);
        }
        int before = asked.stock;
        asked.stock = v;
        return before;
    }

    public int licence(int van, int bits) {
        Van asked = vanNumber(van);
        if (asked == null || !isWithin(bits, ALL_STREETS)) {
            return finding(BEYOND);
        }
        int before = asked.licence;
        asked.licence = bits;
        return before;
    }

    public int law(int a, int b, int seconds) {
        if (!isHour(a) || !isHour(b) || !isWithin(seconds, MOST_LAWFUL_SECONDS)) {
            return finding(BEYOND);
        }
        rules.from = a;
        rules.to = b;
        rules.seconds = seconds;
        return 1;
    }

    public int may(int van, int street, int hour) {
        Van asked = vanNumber(van);
        if (asked == null || !town.has(street) || !isHour(hour)) {
            return finding(BEYOND);
        }
        return mayStand(asked, street, hour) ? 1 : 0;
    }

    public int worth(int street, int hour) {
        if (!town.has(street) || !isHour(hour)) {
            return finding(BEYOND);
        }
        return town.worthAt(street, hour);
    }

    // ---- rounds

    public int plan(int van, int at, int n) {
        int fault = makePlan(van, at, n);
        if (fault != 0) {
            return finding(fault);
        }
        return best.sold;
    }

    public int stop(int van, int at, int n, int i) {
        int fault = makePlan(van, at, n);
        if (fault != 0) {
            return finding(fault);
        }
        if (!best.has(i)) {
            return finding(NONE);
        }
        return PLACE * best.streets[i] + best.hours[i];
    }

    public int left(int van, int at, int n) {
        int fault = makePlan(van, at, n);
        if (fault != 0) {
            return finding(fault);
        }
        return best.stock;
    }

    // ---- stands

    public int stand(int van, int at, int chime) {
        if (vanNumber(van) == null || !isPlace(at) || !isWithin(chime, MOST_CHIME)) {
            return finding(BEYOND);
        }
        int hour = hourOf(at);
        int latest = stands.latestAhead(van, stands.size);
        if (stands.has(latest) && hour <= stands.hours[latest]) {
            return finding(STATE);
        }
        if (stands.isFull()) {
            return finding(FULL);
        }
        return stands.add(van, streetOf(at), hour, chime);
    }

    public int wrong(int stand) {
        if (!stands.has(stand)) {
            return finding(BEYOND);
        }
        return faultOf(stand);
    }

    public int clear() {
        int faults = 0;
        for (int i = 0; i < stands.size; i++) {
            if (faultOf(i) != 0) {
                faults++;
            }
        }
        stands.size = 0;
        return faults;
    }

    public int holder(int street) {
        if (!town.has(street)) {
            return finding(BEYOND);
        }
        int van = holderOf(street);
        return van == NOBODY ? finding(NONE) : van;
    }

    // ---- two vans

    public int gets(int a, int b, int streets, int hour) {
        Van first = vanNumber(a);
        Van second = vanNumber(b);
        if (first == null || second == null || a == b || !isPair(streets) || !isHour(hour)) {
            return finding(BEYOND);
        }
        int s = streets / PAIR;
        int t = streets % PAIR;
        if (!mayStand(first, s, hour) || !mayStand(second, t, hour)) {
            return finding(STATE);
        }
        return shareOf(a, s, b, t, hour);
    }

    public int balance(int a, int b, int hour, int i) {
        if (!areTwoVans(a, b) || !isHour(hour) || i < 0) {
            return finding(BEYOND);
        }
        int ahead = 0;
        for (int s = 0; s < town.size; s++) {
            for (int t = 0; t < town.size; t++) {
                if (isBalance(a, s, b, t, hour)) {
                    if (ahead == i) {
                        return PAIR * s + t;
                    }
                    ahead++;
                }
            }
        }
        return finding(NONE);
    }

    public int together(int a, int b, int hour) {
        Van first = vanNumber(a);
        Van second = vanNumber(b);
        if (first == null || second == null || a == b || !isHour(hour)) {
            return finding(BEYOND);
        }
        int most = -1;
        int pair = NONE;
        for (int s = 0; s < town.size; s++) {
            for (int t = 0; t < town.size; t++) {
                if (mayStand(first, s, hour) && mayStand(second, t, hour)) {
                    int sum = shareOf(a, s, b, t, hour) + shareOf(b, t, a, s, hour);
                    if (sum > most) {
                        most = sum;
                        pair = PAIR * s + t;
                    }
                }
            }
        }
        return pair == NONE ? finding(NONE) : pair;
    }

    // ---- bills

    public int credit(int days) {
        if (!isWithin(days, MOST_CREDIT)) {
            return finding(BEYOND);
        }
        int before = bills.credit;
        bills.credit = days;
        return before;
    }

    public int bill(int coins, int day) {
        if (coins < 1 || coins > MOST_COINS || !isWithin(day, MOST_BILL_DAY)) {
            return finding(BEYOND);
        }
        if (bills.isFull()) {
            return finding(FULL);
        }
        return bills.add(coins, day);
    }

    public int pay(int bill, int coins) {
        if (!bills.has(bill) || coins < 1) {
            return finding(BEYOND);
        }
        if (bills.coins[bill] < coins) {
            return finding(STATE);
        }
        bills.coins[bill] -= coins;
        return bills.coins[bill];
    }

    public int owed(int bill, int day) {
        if ((bill != ALL_BILLS && !bills.has(bill)) || !isWithin(day, MOST_OWED_DAY)) {
            return finding(BEYOND);
        }
        return bill == ALL_BILLS ? bills.owedOfAll(day) : bills.owedOf(bill, day);
    }

    // ---- what is told

    public int tell(int v) {
        if (waitingCount >= MOST_WAITING) {
            return finding(FULL);
        }
        waiting[waitingCount] = v;
        waitingCount++;
        return waitingCount;
    }

    public int check(int van) {
        int told = waitingCount;
        if (told == 0) {
            return finding(NONE);
        }
        waitingCount = 0;
        Van asked = vanNumber(van);
        if (asked == null) {
            return finding(BEYOND);
        }
        return walkTold(asked, told) ? trail.sold : finding(STATE);
    }

    public int count(int what) {
        switch (what) {
            case 0:
                return town.size;
            case 1:
                return vanCount;
            case 2:
                return stands.size;
            case 3:
                return bills.size;
            case 4:
                return waitingCount;
            case 5:
                return stockOfAll();
            case 6:
                return town.heat;
            default:
                return finding(BEYOND);
        }
    }

    public int found(int k) {
        if (k < 1 || k > MOST_FINDINGS) {
            return finding(BEYOND);
        }
        return findings[k];
    }

    private int finding(int answer) {
        int k = LOW - answer;
        if (k >= 1 && k <= MOST_FINDINGS) {
            findings[k]++;
        }
        return answer;
    }

    private static boolean isWithin(int v, int most) {
        return v >= 0 && v <= most;
    }

    private static boolean isHour(int hour) {
        return hour >= 0 && hour < HOURS;
    }

    private boolean isPlace(int at) {
        return at >= 0 && town.has(streetOf(at)) && isHour(hourOf(at));
    }

    private static int streetOf(int at) {
        return at / PLACE;
    }

    private static int hourOf(int at) {
        return at % PLACE;
    }

    private boolean isPair(int streets) {
        return streets >= 0 && town.has(streets / PAIR) && town.has(streets % PAIR);
    }

    private static boolean isKind(int kind) {
        return kind == KIND_VAN || kind == KIND_BIKE || kind == KIND_CART;
    }

    private static Van newVan(int kind) {
        if (kind == KIND_BIKE) {
            return new Bike();
        }
        if (kind == KIND_CART) {
            return new Cart();
        }
        return new Van();
    }

    private static boolean isOfKind(Van van, int kind) {
        if (kind == KIND_BIKE) {
            return van instanceof Bike;
        }
        if (kind == KIND_CART) {
            return van instanceof Cart;
        }
        return true;
    }

    private Van vanNumber(int van) {
        return van >= 0 && van < vanCount ? vans[van] : null;
    }

    private boolean areTwoVans(int a, int b) {
        return vanNumber(a) != null && vanNumber(b) != null && a != b;
    }

    private int stockOfAll() {
        int sum = 0;
        for (int i = 0; i < vanCount; i++) {
            Van each = vans[i];
            if (each != null) {
                sum += each.stock;
            }
        }
        return sum;
    }

    private boolean mayStand(Van van, int street, int hour) {
        return van.isLicensed(street) && !isBarred(street, hour);
    }

    private boolean isBarred(int street, int hour) {
        return town.schools[street] && rules.barsSchoolsAt(hour);
    }

    private int hoursBetween(Van van, int from, int to) {
        return from == to ? 1 : van.hoursAcross(town.wayBetween(from, to));
    }

    /** Leaves THE PLAN in best and answers 0, or answers the finding that keeps it from being made. */
    private int makePlan(int van, int at, int n) {
        Van asked = vanNumber(van);
        if (asked == null || !isPlace(at) || n < 1 || n > MOST_PLAN_HOURS) {
            return BEYOND;
        }
        int street = streetOf(at);
        int hour = hourOf(at);
        if (!mayStand(asked, street, hour)) {
            return STATE;
        }
        best.begin(0);
        trail.begin(asked.stock);
        explore(asked, street, hour, Math.min(hour + n, HOURS) - 1);
        return 0;
    }

    /**
     * Tries every ROUND that goes on from trail with this STAND. ROUNDS come in the order in which
     * the document compares them, so that only one that SELLS more takes the place of the best.
     */
    private void explore(Van van, int street, int hour, int lastHour) {
        if (trail.isFull()) {
            return;
        }
        int stockBefore = trail.stock;
        int soldBefore = trail.sold;
        trail.standIn(van, street, hour, town.worthAt(street, hour));
        if (best.size == 0 || trail.sold > best.sold) {
            best.copyFrom(trail);
        }
        for (int next = 0; next < town.size; next++) {
            int then = hour + hoursBetween(van, street, next);
            if (then <= lastHour && mayStand(van, next, then)) {
                explore(van, next, then, lastHour);
            }
        }
        trail.stepBack(stockBefore, soldBefore);
    }

    private boolean walkTold(Van van, int told) {
        trail.begin(van.stock);
        for (int i = 0; i < told; i++) {
            int at = waiting[i];
            if (trail.isFull() || !isPlace(at) || !goesOn(van, streetOf(at), hourOf(at))) {
                return false;
            }
            trail.standIn(van, streetOf(at), hourOf(at), town.worthAt(streetOf(at), hourOf(at)));
        }
        return true;
    }

    private boolean goesOn(Van van, int street, int hour) {
        if (!mayStand(van, street, hour)) {
            return false;
        }
        int last = trail.size - 1;
        return last < 0
            || hour == trail.hours[last] + hoursBetween(van, trail.streets[last], street);
    }

    private int faultOf(int stand) {
        Van van = vanNumber(stands.vans[stand]);
        int street = stands.streets[stand];
        if (van == null || !van.isLicensed(street)) {
            return 1;
        }
        if (isBarred(street, stands.hours[stand])) {
            return 2;
        }
        if (stands.chimes[stand] > rules.seconds) {
            return 3;
        }
        if (isTooSoon(van, stand)) {
            return 4;
        }
        return stands.isTaken(stand) ? 5 : 0;
    }

    private boolean isTooSoon(Van van, int stand) {
        int ahead = stands.latestAhead(stands.vans[stand], stand);
        if (!stands.has(ahead)) {
            return false;
        }
        int needed = hoursBetween(van, stands.streets[ahead], stands.streets[stand]);
        return stands.hours[stand] - stands.hours[ahead] < needed;
    }

    private int holderOf(int street) {
        int holding = NOBODY;
        int most = 0;
        for (int van = 0; van < vanCount; van++) {
            int here = stands.countOf(van, street);
            if (here > most) {
                most = here;
                holding = van;
            }
        }
        return holding;
    }

    private int shareOf(int van, int street, int other, int otherStreet, int hour) {
        int whole = town.worthAt(street, hour);
        if (street != otherStreet) {
            return whole;
        }
        int holding = holderOf(street);
        if (holding == van) {
            return whole * 2 / 3;
        }
        return holding == other ? whole / 3 : whole / 2;
    }

    private boolean isBalance(int a, int s, int b, int t, int hour) {
        return isContent(a, s, b, t, hour) && isContent(b, t, a, s, hour);
    }

    /** Whether a VAN MAY stand there and would get no more elsewhere, the other one staying. */
    private boolean isContent(int van, int street, int other, int otherStreet, int hour) {
        Van asked = vanNumber(van);
        if (asked == null || !mayStand(asked, street, hour)) {
            return false;
        }
        int here = shareOf(van, street, other, otherStreet, hour);
        for (int next = 0; next < town.size; next++) {
            if (mayStand(asked, next, hour) && shareOf(van, next, other, otherStreet, hour) > here) {
                return false;
            }
        }
        return true;
    }

    /** The STREETS, the WAYS between them and what is wished there. Callers look at numbers first. */
    private static final class Town {
        final boolean[] schools = new boolean[MOST_STREETS];
        private final int[] ways = new int[MOST_STREETS * MOST_STREETS];
        private final int[] wishes = new int[MOST_STREETS * HOURS];
        int size = 0;
        int heat = 2;

        boolean has(int street) {
            return street >= 0 && street < size;
        }

        boolean isFull() {
            return size >= MOST_STREETS;
        }

        int add(boolean school) {
            schools[size] = school;
            size++;
            return size - 1;
        }

        int wayBetween(int a, int b) {
            return ways[a * MOST_STREETS + b];
        }

        void setWay(int a, int b, int v) {
            ways[a * MOST_STREETS + b] = v;
            ways[b * MOST_STREETS + a] = v;
        }

        int wishAt(int street, int hour) {
            return wishes[street * HOURS + hour];
        }

        void setWish(int street, int hour, int v) {
            wishes[street * HOURS + hour] = v;
        }

        int worthAt(int street, int hour) {
            return wishAt(street, hour) * (heat + 2) / 4;
        }
    }

    /** THE LAW. At first its hours end ahead of their beginning, which bars none. */
    private static final class Law {
        int from = 1;
        int to = 0;
        int seconds = 12;

        boolean barsSchoolsAt(int hour) {
            return hour >= from && hour <= to;
        }
    }

    private static class Van {
        int stock = 0;
        int licence = ALL_STREETS;

        boolean isLicensed(int street) {
            return (licence >> street & 1) == 1;
        }

        int mostSoldOf(int wanted) {
            return wanted;
        }

        int meltingOf(int amount) {
            return amount / 10;
        }

        int hoursAcross(int way) {
            return 1 + way;
        }
    }

    private static final class Bike extends Van {
        int mostSoldOf(int wanted) {
            return Math.min(wanted, 30);
        }

        int meltingOf(int amount) {
            return amount / 5;
        }
    }

    private static final class Cart extends Van {
        int meltingOf(int amount) {
            return 0;
        }

        int hoursAcross(int way) {
            return 2 + way;
        }
    }

    /** A ROUND as it grows, with what it has sold and the STOCK that it has left. */
    private static final class Trail {
        final int[] streets = new int[HOURS];
        final int[] hours = new int[HOURS];
        int size = 0;
        int stock = 0;
        int sold = 0;

        void begin(int stockAtFirst) {
            size = 0;
            stock = stockAtFirst;
            sold = 0;
        }

        boolean has(int i) {
            return i >= 0 && i < size;
        }

        boolean isFull() {
            return size >= HOURS;
        }

        void standIn(Van van, int street, int hour, int whole) {
            int wanted = wasLatelyIn(street, hour) ? whole / 2 : whole;
            int sells = Math.min(stock, van.mostSoldOf(wanted));
            sold += sells;
            stock -= sells;
            stock -= van.meltingOf(stock);
            streets[size] = street;
            hours[size] = hour;
            size++;
        }

        void stepBack(int stockBefore, int soldBefore) {
            size--;
            stock = stockBefore;
            sold = soldBefore;
        }

        void copyFrom(Trail other) {
            for (int i = 0; i < other.size; i++) {
                streets[i] = other.streets[i];
                hours[i] = other.hours[i];
            }
            size = other.size;
            stock = other.stock;
            sold = other.sold;
        }

        private boolean wasLatelyIn(int street, int hour) {
            for (int i = 0; i < size; i++) {
                if (streets[i] == street && hour - hours[i] <= 2) {
                    return true;
                }
            }
            return false;
        }
    }

    /** The STANDS told, in rows that are used again on a new day. */
    private static final class Stands {
        final int[] vans = new int[MOST_STANDS];
        final int[] streets = new int[MOST_STANDS];
        final int[] hours = new int[MOST_STANDS];
        final int[] chimes = new int[MOST_STANDS];
        int size = 0;

        boolean has(int stand) {
            return stand >= 0 && stand < size;
        }

        boolean isFull() {
            return size >= MOST_STANDS;
        }

        int add(int van, int street, int hour, int chime) {
            vans[size] = van;
            streets[size] = street;
            hours[size] = hour;
            chimes[size] = chime;
            size++;
            return size - 1;
        }

        /** The latest STAND of a VAN with a number below the one given; -1 without. */
        int latestAhead(int van, int stand) {
            int latest = -1;
            for (int i = 0; i < stand; i++) {
                if (vans[i] == van) {
                    latest = i;
                }
            }
            return latest;
        }

        /** Of one VAN HOURS rise, so that an earlier STAND at the same HOUR is another VAN's. */
        boolean isTaken(int stand) {
            for (int i = 0; i < stand; i++) {
                if (streets[i] == streets[stand] && hours[i] == hours[stand]) {
                    return true;
                }
            }
            return false;
        }

        int countOf(int van, int street) {
            int here = 0;
            for (int i = 0; i < size; i++) {
                if (vans[i] == van && streets[i] == street) {
                    here++;
                }
            }
            return here;
        }
    }

    private static final class Bills {
        final int[] coins = new int[MOST_BILLS];
        private final int[] days = new int[MOST_BILLS];
        private final int[] dues = new int[MOST_BILLS];
        int size = 0;
        int credit = 14;

        boolean has(int bill) {
            return bill >= 0 && bill < size;
        }

        boolean isFull() {
            return size >= MOST_BILLS;
        }

        int add(int amount, int day) {
            coins[size] = amount;
            days[size] = day;
            dues[size] = day + credit;
            size++;
            return size - 1;
        }

        int owedOf(int bill, int day) {
            if (day < days[bill]) {
                return 0;
            }
            int weeks = Math.max(day - dues[bill], 0) / 7;
            return coins[bill] + weeks * (coins[bill] / 50);
        }

        int owedOfAll(int day) {
            int sum = 0;
            for (int i = 0; i < size; i++) {
                sum += owedOf(i, day);
            }
            return sum;
        }
    }
}

import java.util.ArrayList;
import java.util.List;
import java.util.Random;

/**
 * Long runs of calls, drawn from fixed seeds, against a second reading of the document that shares
 * nothing with the program: it lists all rounds and all pairs and sorts them as the document says.
 */
public final class ConeRoundsModel {
    private static final int BEYOND = -1000001;
    private static final int NONE = -1000002;
    private static final int STATE = -1000003;
    private static final int FULL = -1000004;
    private static final int KIND = -1000005;

    private record Place(int street, int hour) { }

    private record Told(int van, Place place, int chime) { }

    private record Walk(List<Place> places, int sold, int left) { }

    private record Pair(int s, int t) { }

    private static final class Debt {
        int left;
        final int day;
        final int due;

        Debt(int left, int day, int due) {
            this.left = left;
            this.day = day;
            this.due = due;
        }
    }

    private static final class Model {
        final List<Integer> schools = new ArrayList<>();
        final int[][] ways = new int[6][6];
        final int[][] wishes = new int[6][12];
        int heat = 2;
        final List<Integer> kinds = new ArrayList<>();
        final int[] stocks = new int[4];
        final int[] licences = {63, 63, 63, 63};
        boolean[] barred = new boolean[12];
        int seconds = 12;
        List<Told> told = new ArrayList<>();
        final List<Debt> debts = new ArrayList<>();
        int credit = 14;
        List<Integer> waiting = new ArrayList<>();
        final int[] findings = new int[6];

        boolean noStreet(int s) {
            return s < 0 || s >= schools.size();
        }

        boolean noVan(int v) {
            return v < 0 || v >= kinds.size();
        }

        boolean noHour(int h) {
            return h < 0 || h > 11;
        }

        boolean out(int v, int least, int most) {
            return v < least || v > most;
        }

        int worth(int s, int h) {
            return wishes[s][h] * (heat + 2) / 4;
        }

        boolean law(int s, int h) {
            return schools.get(s) == 1 && barred[h];
        }

        boolean licensed(int v, int s) {
            return (licences[v] & (1 << s)) != 0;
        }

        boolean may(int v, Place p) {
            return licensed(v, p.street) && !law(p.street, p.hour);
        }

        int gap(int v, int a, int b) {
            if (a == b) {
                return 1;
            }
            return 1 + ways[Math.min(a, b)][Math.max(a, b)] + (kinds.get(v) == 2 ? 1 : 0);
        }

        Place place(int at) {
            if (at < 0) {
                return null;
            }
            Place p = new Place(at / 100, at % 100);
            return noStreet(p.street) || noHour(p.hour) ? null : p;
        }

        boolean isRound(int v, List<Place> row) {
            for (int i = 0; i < row.size(); i++) {
                if (row.get(i) == null || noHour(row.get(i).hour) || !may(v, row.get(i))) {
                    return false;
                }
                if (i > 0 && row.get(i).hour
                    != row.get(i - 1).hour + gap(v, row.get(i - 1).street, row.get(i).street)) {
                    return false;
                }
            }
            return true;
        }

        Walk walk(int v, List<Place> row) {
            int stock = stocks[v];
            int sold = 0;
            for (Place p : row) {
                int w = worth(p.street, p.hour);
                if (row.contains(new Place(p.street, p.hour - 1))
                    || row.contains(new Place(p.street, p.hour - 2))) {
                    w = w / 2;
                }
                int sells = Math.min(stock, kinds.get(v) == 1 ? Math.min(30, w) : w);
                sold += sells;
                stock -= sells;
                stock -= kinds.get(v) == 0 ? stock / 10 : kinds.get(v) == 1 ? stock / 5 : 0;
            }
            return new Walk(row, sold, stock);
        }

        /** All rounds, breadth first, so that their order here is not the order that is due. */
        List<List<Place>> rounds(int v, Place first, int n) {
            List<List<Place>> all = new ArrayList<>();
            all.add(List.of(first));
            for (int k = 0; k < all.size(); k++) {
                List<Place> row = all.get(k);
                Place last = row.get(row.size() - 1);
                for (int s = schools.size() - 1; s >= 0; s--) {
                    int h = last.hour + gap(v, last.street, s);
                    if (h < first.hour + n && h <= 11 && may(v, new Place(s, h))) {
                        List<Place> longer = new ArrayList<>(row);
                        longer.add(new Place(s, h));
                        all.add(longer);
                    }
                }
            }
            return all;
        }

        boolean comesAhead(List<Place> a, List<Place> b) {
            for (int i = 0; i < a.size() && i < b.size(); i++) {
                if (a.get(i).street != b.get(i).street) {
                    return a.get(i).street < b.get(i).street;
                }
            }
            return a.size() < b.size();
        }

        Walk best(int v, Place first, int n) {
            Walk best = null;
            for (List<Place> row : rounds(v, first, n)) {
                Walk w = walk(v, row);
                if (best == null || w.sold > best.sold
                    || w.sold == best.sold && comesAhead(row, best.places)) {
                    best = w;
                }
            }
            return best;
        }

        int plan(int what, int v, int at, int n, int i) {
            Place first = place(at);
            if (noVan(v) || first == null || out(n, 1, 6)) {
                return BEYOND;
            }
            if (!may(v, first)) {
                return STATE;
            }
            Walk w = best(v, first, n);
            if (what == 0) {
                return w.sold;
            }
            if (what == 2) {
                return w.left;
            }
            if (i < 0 || i >= w.places.size()) {
                return NONE;
            }
            return w.places.get(i).street * 100 + w.places.get(i).hour;
        }

        int stand(int v, int at, int chime) {
            Place p = place(at);
            if (noVan(v) || p == null || out(chime, 0, 99)) {
                return BEYOND;
            }
            for (Told t : told) {
                if (t.van == v && t.place.hour >= p.hour) {
                    return STATE;
                }
            }
            if (told.size() == 24) {
                return FULL;
            }
            told.add(new Told(v, p, chime));
            return told.size() - 1;
        }

        int fault(int k) {
            Told x = told.get(k);
            if (!licensed(x.van, x.place.street)) {
                return 1;
            }
            if (law(x.place.street, x.place.hour)) {
                return 2;
            }
            if (x.chime > seconds) {
                return 3;
            }
            for (int i = k - 1; i >= 0; i--) {
                Told y = told.get(i);
                if (y.van == x.van) {
                    if (y.place.hour + gap(x.van, y.place.street, x.place.street) > x.place.hour) {
                        return 4;
                    }
                    break;
                }
            }
            for (int i = 0; i < k; i++) {
                if (told.get(i).van != x.van && told.get(i).place.equals(x.place)) {
                    return 5;
                }
            }
            return 0;
        }

        int clear() {
            int sum = 0;
            for (int i = 0; i < told.size(); i++) {
                sum += fault(i) > 0 ? 1 : 0;
            }
            told = new ArrayList<>();
            return sum;
        }

        int holder(int s) {
            int[] n = new int[4];
            for (Told t : told) {
                n[t.van] += t.place.street == s ? 1 : 0;
            }
            int best = 0;
            for (int v = 3; v >= 0; v--) {
                best = n[v] >= n[best] ? v : best;
            }
            return n[best] == 0 ? NONE : best;
        }

        int gets(int a, int b, Pair p, int h) {
            int w = worth(p.s, h);
            if (p.s != p.t) {
                return w;
            }
            int holder = holder(p.s);
            return holder == a ? 2 * w / 3 : holder == b ? w / 3 : w / 2;
        }

        List<Pair> pairs(int a, int b, int h) {
            List<Pair> all = new ArrayList<>();
            for (int s = 0; s < schools.size(); s++) {
                for (int t = 0; t < schools.size(); t++) {
                    if (may(a, new Place(s, h)) && may(b, new Place(t, h))) {
                        all.add(new Pair(s, t));
                    }
                }
            }
            return all;
        }

        int askGets(int a, int b, int streets, int h) {
            if (noVan(a) || noVan(b) || a == b || noHour(h) || streets < 0
                || noStreet(streets / 10) || noStreet(streets % 10)) {
                return BEYOND;
            }
            Pair p = new Pair(streets / 10, streets % 10);
            return pairs(a, b, h).contains(p) ? gets(a, b, p, h) : STATE;
        }

        int balance(int a, int b, int h, int i) {
            if (noVan(a) || noVan(b) || a == b || noHour(h) || i < 0) {
                return BEYOND;
            }
            List<Pair> all = pairs(a, b, h);
            List<Pair> still = new ArrayList<>();
            for (Pair p : all) {
                boolean moves = false;
                for (Pair q : all) {
                    moves |= q.t == p.t && gets(a, b, q, h) > gets(a, b, p, h);
                    moves |= q.s == p.s && gets(b, a, new Pair(q.t, q.s), h)
                        > gets(b, a, new Pair(p.t, p.s), h);
                }
                if (!moves) {
                    still.add(p);
                }
            }
            return i < still.size() ? still.get(i).s * 10 + still.get(i).t : NONE;
        }

        int together(int a, int b, int h) {
            if (noVan(a) || noVan(b) || a == b || noHour(h)) {
                return BEYOND;
            }
            int best = NONE;
            int most = 0;
            for (Pair p : pairs(a, b, h)) {
                int sum = gets(a, b, p, h) + gets(b, a, new Pair(p.t, p.s), h);
                if (best == NONE || sum > most) {
                    best = p.s * 10 + p.t;
                    most = sum;
                }
            }
            return best;
        }

        int owed(int k, int day) {
            if (k < -1 || k >= debts.size() || out(day, 0, 2000)) {
                return BEYOND;
            }
            int sum = 0;
            for (int i = 0; i < debts.size(); i++) {
                Debt d = debts.get(i);
                if ((k == -1 || k == i) && day >= d.day) {
                    sum += d.left;
                    for (int late = d.due + 7; late <= day; late += 7) {
                        sum += d.left / 50;
                    }
                }
            }
            return sum;
        }

        int check(int v) {
            if (waiting.isEmpty()) {
                return NONE;
            }
            List<Place> row = new ArrayList<>();
            for (int at : waiting) {
                row.add(place(at));
            }
            waiting = new ArrayList<>();
            if (noVan(v)) {
                return BEYOND;
            }
            return isRound(v, row) ? walk(v, row).sold : STATE;
        }

        int count(int what) {
            switch (what) {
                case 0: return schools.size();
                case 1: return kinds.size();
                case 2: return told.size();
                case 3: return debts.size();
                case 4: return waiting.size();
                case 5: return stocks[0] + stocks[1] + stocks[2] + stocks[3];
                case 6: return heat;
                default: return BEYOND;
            }
        }

        int streetsAndVans(int act, int a, int b, int c) {
            int was;
            switch (act) {
                case 0:
                    if (out(a, 0, 1)) return BEYOND;
                    if (schools.size() == 6) return FULL;
                    schools.add(a);
                    return schools.size() - 1;
                case 1:
                    if (noStreet(a) || noStreet(b) || a == b || out(c, 0, 3)) return BEYOND;
                    was = ways[Math.min(a, b)][Math.max(a, b)];
                    ways[Math.min(a, b)][Math.max(a, b)] = c;
                    return was;
                case 2:
                    if (noStreet(a) || noHour(b) || out(c, 0, 200)) return BEYOND;
                    was = wishes[a][b];
                    wishes[a][b] = c;
                    return was;
                case 3:
                    if (out(a, 0, 4)) return BEYOND;
                    was = heat;
                    heat = a;
                    return was;
                case 4:
                    if (out(a, 0, 2)) return BEYOND;
                    if (kinds.size() == 4) return FULL;
                    kinds.add(a);
                    return kinds.size() - 1;
                case 5:
                    if (noVan(a) || out(b, 0, 2)) return BEYOND;
                    return b == 0 || b == kinds.get(a) ? stocks[a] : KIND;
                case 6:
                    if (noVan(a) || out(b, 0, 2000)) return BEYOND;
                    was = stocks[a];
                    stocks[a] = b;
                    return was;
                case 7:
                    if (noVan(a) || out(b, 0, 63)) return BEYOND;
                    was = licences[a];
                    licences[a] = b;
                    return was;
                case 8:
                    if (noHour(a) || noHour(b) || out(c, 0, 60)) return BEYOND;
                    barred = new boolean[12];
                    for (int h = a; h <= b; h++) barred[h] = true;
                    seconds = c;
                    return 1;
                case 9:
                    if (noVan(a) || noStreet(b) || noHour(c)) return BEYOND;
                    return may(a, new Place(b, c)) ? 1 : 0;
                default:
                    return noStreet(a) || noHour(b) ? BEYOND : worth(a, b);
            }
        }

        int bills(int act, int a, int b) {
            switch (act) {
                case 21:
                    if (out(a, 0, 60)) return BEYOND;
                    int was = credit;
                    credit = a;
                    return was;
                case 22:
                    if (out(a, 1, 10000) || out(b, 0, 1000)) return BEYOND;
                    if (debts.size() == 12) return FULL;
                    debts.add(new Debt(a, b, b + credit));
                    return debts.size() - 1;
                case 23:
                    if (a < 0 || a >= debts.size() || b < 1) return BEYOND;
                    if (debts.get(a).left < b) return STATE;
                    debts.get(a).left -= b;
                    return debts.get(a).left;
                default:
                    return owed(a, b);
            }
        }

        int answer(int act, int a, int b, int c, int d) {
            switch (act) {
                case 11: return plan(0, a, b, c, 0);
                case 12: return plan(1, a, b, c, d);
                case 13: return plan(2, a, b, c, 0);
                case 14: return stand(a, b, c);
                case 15: return a < 0 || a >= told.size() ? BEYOND : fault(a);
                case 16: return clear();
                case 17: return noStreet(a) ? BEYOND : holder(a);
                case 18: return askGets(a, b, c, d);
                case 19: return balance(a, b, c, d);
                case 20: return together(a, b, c);
                case 25:
                    if (waiting.size() == 12) return FULL;
                    waiting.add(a);
                    return waiting.size();
                case 26: return check(a);
                case 27: return count(a);
                case 28: return a < 1 || a > 5 ? BEYOND : findings[a];
                default: return act <= 10 ? streetsAndVans(act, a, b, c) : bills(act, a, b);
            }
        }

        int told(int act, int a, int b, int c, int d) {
            int answer = answer(act, a, b, c, d);
            if (answer < -1000000) {
                findings[-1000000 - answer]++;
            }
            return answer;
        }
    }

    private static final String[] NAMES = {
        "street", "way", "wish", "heat", "van", "as", "stock", "licence", "law", "may", "worth",
        "plan", "stop", "left", "stand", "wrong", "clear", "holder", "gets", "balance", "together",
        "credit", "bill", "pay", "owed", "tell", "check", "count", "found"
    };

    private static int ask(ConeRounds x, int act, int a, int b, int c, int d) {
        switch (act) {
            case 0: return x.street(a);
            case 1: return x.way(a, b, c);
            case 2: return x.wish(a, b, c);
            case 3: return x.heat(a);
            case 4: return x.van(a);
            case 5: return x.as(a, b);
            case 6: return x.stock(a, b);
            case 7: return x.licence(a, b);
            case 8: return x.law(a, b, c);
            case 9: return x.may(a, b, c);
            case 10: return x.worth(a, b);
            case 11: return x.plan(a, b, c);
            case 12: return x.stop(a, b, c, d);
            case 13: return x.left(a, b, c);
            case 14: return x.stand(a, b, c);
            case 15: return x.wrong(a);
            case 16: return x.clear();
            case 17: return x.holder(a);
            case 18: return x.gets(a, b, c, d);
            case 19: return x.balance(a, b, c, d);
            case 20: return x.together(a, b, c);
            case 21: return x.credit(a);
            case 22: return x.bill(a, b);
            case 23: return x.pay(a, b);
            case 24: return x.owed(a, b);
            case 25: return x.tell(a);
            case 26: return x.check(a);
            case 27: return x.count(a);
            default: return x.found(a);
        }
    }

    /** Draws arguments: mostly such as the document takes, now and then one at or past an edge. */
    private static final class Draw {
        final Random random;
        final Model model;

        Draw(Random random, Model model) {
            this.random = random;
            this.model = model;
        }

        int in(int least, int most) {
            int r = random.nextInt(40);
            if (r == 0) return least - 1;
            if (r == 1) return most + 1;
            if (r == 2) return least;
            if (r == 3) return most;
            if (r == 4 && random.nextInt(8) == 0) return random.nextInt();
            if (r == 5 && random.nextInt(8) == 0) {
                return random.nextBoolean() ? Integer.MIN_VALUE : Integer.MAX_VALUE;
            }
            return least + random.nextInt(Math.max(1, most - least + 1));
        }

        int street() {
            return in(0, model.schools.size() - 1);
        }

        int van() {
            return in(0, model.kinds.size() - 1);
        }

        int hour() {
            return in(0, 11);
        }

        int at() {
            return random.nextInt(60) == 0 ? in(-200, 700) : 100 * street() + hour();
        }

        int wish() {
            return random.nextInt(3) == 0 ? 10 * random.nextInt(4) : in(0, 200);
        }

        int stock() {
            return random.nextInt(3) == 0 ? in(0, 2000) : in(0, 300);
        }

        int[] args(int act) {
            switch (act) {
                case 0: return row(in(0, 1));
                case 1: return row(street(), street(), in(0, random.nextInt(4)));
                case 2: return row(street(), hour(), wish());
                case 3: return row(in(0, 4));
                case 4: return row(in(0, 2));
                case 5: return row(van(), in(0, 2));
                case 6: return row(van(), stock());
                case 7: return row(van(), random.nextBoolean() ? 63 : in(0, 63));
                case 8: return row(hour(), hour(), in(0, 60));
                case 9: return row(van(), street(), hour());
                case 10: return row(street(), hour());
                case 11: case 13: return row(van(), at(), in(1, 6));
                case 12: return row(van(), at(), in(1, 6), in(0, 5));
                case 14: return row(van(), lateAt(), random.nextInt(3) == 0 ? in(0, 99) : in(0, 12));
                case 15: return row(in(0, model.told.size() - 1));
                case 17: return row(street());
                case 18: return row(van(), van(), pair(), hour());
                case 19: return row(van(), van(), hour(), in(0, 3));
                case 20: return row(van(), van(), hour());
                case 21: return row(in(0, 60));
                case 22: return row(random.nextBoolean() ? in(1, 400) : in(1, 10000), in(0, 1000));
                case 23: return row(in(0, model.debts.size() - 1), in(1, 300));
                case 24: return row(in(-1, model.debts.size() - 1), in(0, 2000));
                case 25: return row(nextTold());
                case 26: return row(van());
                case 27: return row(in(0, 6));
                case 28: return row(in(1, 5));
                default: return row();
            }
        }

        /** Mostly soon behind the latest stands, so that days fill and hours clash. */
        int lateAt() {
            int h = 0;
            for (Told t : model.told) {
                h = Math.max(h, t.place.hour);
            }
            return random.nextInt(3) == 0 ? at() : 100 * street() + Math.max(0, h - 1 + random.nextInt(3));
        }

        int pair() {
            return random.nextInt(40) == 0 ? in(-20, 80)
                : 10 * street() + (random.nextInt(40) == 0 ? 9 : Math.floorMod(street(), 10));
        }

        /** Mostly a stand that the told ones could go on with. */
        int nextTold() {
            int n = model.waiting.size();
            if (n == 0 || random.nextInt(10) == 0 || model.kinds.isEmpty() || model.schools.isEmpty()) {
                return 100 * street() + random.nextInt(4);
            }
            Place last = model.place(model.waiting.get(n - 1));
            if (last == null) {
                return at();
            }
            int s = random.nextInt(model.schools.size());
            return 100 * s + last.hour + model.gap(random.nextInt(model.kinds.size()), last.street, s);
        }

        private static int[] row(int... v) {
            int[] all = new int[4];
            System.arraycopy(v, 0, all, 0, v.length);
            return all;
        }
    }

    private static final int[] SEEN_FINE = new int[NAMES.length];

    /** Days are cleared and the costly plans are asked more seldom than the other acts. */
    private static int act(Random random, int step) {
        if (step < 40) {
            return new int[] {0, 4, 2, 2, 6, 1}[random.nextInt(6)];
        }
        int act = random.nextInt(NAMES.length);
        if (act == 16 && random.nextInt(6) != 0) {
            return 14;
        }
        if (act == 26 && random.nextInt(2) == 0) {
            return 25;
        }
        if (act == 8 && random.nextInt(3) != 0) {
            return 2;
        }
        return act;
    }

    private static boolean run(int seed) {
        Random random = new Random(seed);
        ConeRounds x = new ConeRounds();
        Model model = new Model();
        Draw draw = new Draw(random, model);
        for (int step = 0; step < 512; step++) {
            int act = act(random, step);
            int[] v = draw.args(act);
            int want = model.told(act, v[0], v[1], v[2], v[3]);
            int got = ask(x, act, v[0], v[1], v[2], v[3]);
            SEEN_FINE[act] += want > -1000000 ? 1 : 0;
            if (got != want) {
                System.out.println("seed " + seed + ", call " + step + ": " + NAMES[act] + " of "
                    + v[0] + ", " + v[1] + ", " + v[2] + ", " + v[3]
                    + " answered " + got + ", due is " + want);
                return false;
            }
        }
        return true;
    }

    public static void main(String[] args) {
        int wrong = 0;
        for (int seed = 1; seed <= 500; seed++) {
            wrong += run(seed) ? 0 : 1;
        }
        for (int act = 0; act < NAMES.length; act++) {
            if (SEEN_FINE[act] < 1000) {
                wrong++;
                System.out.println(NAMES[act] + " was hardly ever answered without a finding: "
                    + SEEN_FINE[act]);
            }
        }
        System.out.println(wrong == 0 ? "all runs agree" : wrong + " runs do not agree");
        if (wrong != 0) {
            System.exit(1);
        }
    }
}

import java.util.ArrayList;
import java.util.List;
import java.util.Set;

/**
 * A test of its own for each sentence of the document that names a boundary case. Answers are
 * worked out by hand. Behind every call that is refused or only asks, some 300 answers of an object
 * with that call and of one without it are compared: none may differ but what found() tells.
 */
public final class ConeRoundsEdges {
    private static final int LOW = -1000000;
    private static final int BEYOND = -1000001;
    private static final int NONE = -1000002;
    private static final int STATE = -1000003;
    private static final int FULL = -1000004;
    private static final int KIND = -1000005;
    private static final int MOST = Integer.MAX_VALUE;
    private static final int LEAST = Integer.MIN_VALUE;
    private static final int MOST_CALLS = 512;
    private static final Set<String> ASKS = Set.of("as", "may", "worth", "plan", "stop", "left",
        "wrong", "holder", "gets", "balance", "together", "owed", "count", "found");
    private static int wrong = 0;
    private static int asked = 0;

    private record Call(String name, int[] args) {
        String text() {
            StringBuilder text = new StringBuilder(name).append('(');
            for (int i = 0; i < args.length; i++) {
                text.append(i == 0 ? "" : ", ").append(args[i]);
            }
            return text.append(')').toString();
        }
    }

    private static void fault(String text) {
        wrong++;
        System.out.println(text);
    }

    private static int answer(ConeRounds x, Call call) {
        int[] a = call.args;
        switch (call.name) {
            case "street": return x.street(a[0]);
            case "way": return x.way(a[0], a[1], a[2]);
            case "wish": return x.wish(a[0], a[1], a[2]);
            case "heat": return x.heat(a[0]);
            case "van": return x.van(a[0]);
            case "as": return x.as(a[0], a[1]);
            case "stock": return x.stock(a[0], a[1]);
            case "licence": return x.licence(a[0], a[1]);
            case "law": return x.law(a[0], a[1], a[2]);
            case "may": return x.may(a[0], a[1], a[2]);
            case "worth": return x.worth(a[0], a[1]);
            case "plan": return x.plan(a[0], a[1], a[2]);
            case "stop": return x.stop(a[0], a[1], a[2], a[3]);
            case "left": return x.left(a[0], a[1], a[2]);
            case "stand": return x.stand(a[0], a[1], a[2]);
            case "wrong": return x.wrong(a[0]);
            case "clear": return x.clear();
            case "holder": return x.holder(a[0]);
            case "gets": return x.gets(a[0], a[1], a[2], a[3]);
            case "balance": return x.balance(a[0], a[1], a[2], a[3]);
            case "together": return x.together(a[0], a[1], a[2]);
            case "credit": return x.credit(a[0]);
            case "bill": return x.bill(a[0], a[1]);
            case "pay": return x.pay(a[0], a[1]);
            case "owed": return x.owed(a[0], a[1]);
            case "tell": return x.tell(a[0]);
            case "check": return x.check(a[0]);
            case "count": return x.count(a[0]);
            case "found": return x.found(a[0]);
            default: throw new IllegalArgumentException(call.name);
        }
    }

    /**
     * Asks an object for its state, and spoils it. Of a BILL's days and of the seconds of THE LAW it
     * sees only what a few days and chimes show, for an object has but 512 calls.
     */
    private static final class Probe {
        final List<String> names = new ArrayList<>();
        final List<Integer> answers = new ArrayList<>();
        private final ConeRounds x;

        Probe(ConeRounds x) {
            this.x = x;
            askFindingsAndCounts();
            askStands();
            ask("check", 0);
            fillUp();
            askVans();
            askStreets();
            askChimes();
            askBills();
        }

        private int ask(String name, int... args) {
            Call call = new Call(name, args);
            int got = answer(x, call);
            names.add(call.text());
            answers.add(got);
            return got;
        }

        private void askFindingsAndCounts() {
            for (int k = 1; k <= 5; k++) {
                ask("found", k);
            }
            for (int what = 0; what <= 6; what++) {
                ask("count", what);
            }
        }

        private void askStands() {
            for (int i = 0; i < 24; i++) {
                ask("wrong", i);
            }
            for (int s = 0; s < 6; s++) {
                ask("holder", s);
            }
        }

        private void fillUp() {
            for (int i = 0; i < 6; i++) {
                ask("street", 0);
            }
            for (int i = 0; i < 4; i++) {
                ask("van", 0);
            }
        }

        private void askVans() {
            for (int v = 0; v < 4; v++) {
                for (int kind = 0; kind < 3; kind++) {
                    ask("as", v, kind);
                }
                ask("stock", v, 0);
                ask("licence", v, 63);
            }
        }

        private void askStreets() {
            ask("heat", 2);
            for (int s = 0; s < 6; s++) {
                for (int t = s + 1; t < 6; t++) {
                    ask("way", t, s, 0);
                }
                for (int h = 0; h < 12; h++) {
                    ask("wish", s, h, 0);
                    ask("may", 0, s, h);
                }
            }
        }

        /** In the first STREET that isn't barred, so that a chime too long is what is wrong there. */
        private void askChimes() {
            int[] chimes = {0, 1, 4, 5, 6, 12, 13, 20, 21, 59, 60, 61};
            ask("clear");
            for (int h = 0; h < 12; h++) {
                int s = 0;
                while (s < 5 && ask("may", 0, s, h) == 0) {
                    s++;
                }
                ask("stand", 0, 100 * s + h, chimes[h]);
                ask("wrong", h);
            }
        }

        private void askBills() {
            ask("credit", 14);
            for (int b = 0; b < 12; b++) {
                ask("owed", b, 20);
                ask("owed", b, 2000);
                ask("pay", b, 1);
            }
        }
    }

    /** Calls on one object; the acts that took effect are kept, to make others like it. */
    private static final class Run {
        private final String sentence;
        private final ConeRounds x = new ConeRounds();
        private final List<Call> acts = new ArrayList<>();
        private int calls = 0;

        Run(String sentence) {
            this.sentence = sentence;
        }

        /** A call whose answer isn't what this test is about, but no finding. */
        Run with(String name, int... args) {
            Call call = new Call(name, args);
            int got = one(call);
            if (got < LOW) {
                fault(sentence + ": " + call.text() + " answered " + got);
            }
            took(call);
            return this;
        }

        Run is(int want, String name, int... args) {
            Call call = new Call(name, args);
            int got = one(call);
            asked++;
            if (got != want) {
                fault(sentence + ": " + call.text() + " answered " + got + ", due is " + want);
            } else if (want < LOW || ASKS.contains(name) || name.equals("check")
                || name.equals("clear")) {
                compare(call, want);
            }
            if (got >= LOW || name.equals("check")) {
                took(call);
            }
            return this;
        }

        /**
         * The least and the most of an argument are taken (with these answers), what is beside them
         * and the ends of int are not: neither where the other arguments are new nor where they are
         * as they were.
         */
        Run range(int at, int least, int atLeast, int most, int atMost, String name, int... args) {
            int[] outside = {least - 1, most + 1, LEAST, MOST};
            refuses(BEYOND, at, outside, name, args);
            is(atLeast, name, put(args, at, least));
            refuses(BEYOND, at, outside, name, args);
            is(atMost, name, put(args, at, most));
            return this;
        }

        /** Each of these values of an argument is refused. */
        Run refuses(int finding, int at, int[] values, String name, int... args) {
            for (int value : values) {
                is(finding, name, put(args, at, value));
            }
            return this;
        }

        private int one(Call call) {
            calls++;
            if (calls > MOST_CALLS) {
                fault(sentence + ": more calls than an object is made for");
            }
            return answer(x, call);
        }

        /** What check() and clear() take away is as if it had never been told. */
        private void took(Call call) {
            if (call.name.equals("check")) {
                acts.removeIf(act -> act.name.equals("tell"));
            } else if (call.name.equals("clear")) {
                acts.removeIf(act -> act.name.equals("stand"));
            } else if (!ASKS.contains(call.name)) {
                acts.add(call);
            }
        }

        private ConeRounds again(List<Call> row) {
            ConeRounds twin = new ConeRounds();
            for (Call act : row) {
                answer(twin, act);
            }
            return twin;
        }

        private void compare(Call call, int want) {
            ConeRounds like = again(acts);
            answer(like, call);
            List<Call> without = new ArrayList<>(acts);
            without.removeIf(act -> call.name.equals("check") && act.name.equals("tell")
                || call.name.equals("clear") && act.name.equals("stand"));
            Probe got = new Probe(like);
            Probe due = new Probe(again(without));
            if (acts.size() + 1 + got.answers.size() > MOST_CALLS) {
                fault(sentence + ": more calls are compared than an object is made for");
            }
            if (got.answers.size() != due.answers.size()) {
                fault(sentence + ": behind " + call.text() + " THE LAW is another one");
                return;
            }
            for (int i = 0; i < due.answers.size(); i++) {
                int more = want < LOW && i == LOW - want - 1 ? 1 : 0;
                if (got.answers.get(i) != due.answers.get(i) + more) {
                    fault(sentence + ": behind " + call.text() + ", " + due.names.get(i)
                        + " answered " + got.answers.get(i) + ", due is "
                        + (due.answers.get(i) + more));
                }
            }
        }

        private static int[] put(int[] args, int at, int value) {
            int[] row = args.clone();
            row[at] = value;
            return row;
        }
    }

    private static Run town(String sentence, int streets, int... kinds) {
        Run x = new Run(sentence);
        for (int i = 0; i < streets; i++) {
            x.with("street", 0);
        }
        for (int kind : kinds) {
            x.with("van", kind);
        }
        return x;
    }

    /**
     * Five STREETS (1 and 3 with a SCHOOL), a VAN, a BIKE and a CART, and something of all else, so
     * that a refused call has much that it could spoil.
     */
    private static Run rich(String sentence) {
        Run x = new Run(sentence);
        for (int s = 0; s < 5; s++) {
            x.with("street", s % 2);
        }
        x.with("van", 0).with("van", 1).with("van", 2);
        x.with("stock", 0, 500).with("stock", 1, 200).with("stock", 2, 2000);
        x.with("licence", 1, 23);
        x.with("way", 0, 1, 1).with("way", 1, 2, 3).with("way", 0, 4, 2);
        x.with("wish", 0, 3, 40).with("wish", 1, 3, 101).with("wish", 2, 4, 77);
        x.with("wish", 4, 3, 200).with("wish", 0, 9, 33);
        x.with("heat", 3);
        x.with("law", 5, 7, 20);
        x.with("stand", 0, 3, 5).with("stand", 1, 3, 21).with("stand", 0, 106, 5);
        x.with("credit", 7).with("bill", 500, 10).with("credit", 21).with("bill", 49, 100);
        x.with("tell", 3).with("tell", 4);
        return x;
    }

    // ---- Terms: findings

    private static void findingsHaveTheirNumbers() {
        town("LOW - 1 BEYOND", 0).is(LOW - 1, "heat", 5);
        town("LOW - 2 NONE", 1).is(LOW - 2, "holder", 0);
        town("LOW - 3 STATE", 1, 0).with("licence", 0, 0).is(LOW - 3, "plan", 0, 0, 1);
        town("LOW - 4 FULL", 6).is(LOW - 4, "street", 0);
        town("LOW - 5 KIND", 0, 0).is(LOW - 5, "as", 0, 1);
    }

    private static void aFindingIsToldOnceForSeveralReasons() {
        Run x = rich("one finding, though there are several reasons");
        x.is(BEYOND, "way", LEAST, MOST, 9).is(1, "found", 1);
        x.is(BEYOND, "wish", -1, 12, 201).is(2, "found", 1);
        x.is(BEYOND, "law", -1, 12, 61).is(3, "found", 1);
        x.is(BEYOND, "plan", 9, 99, 7).is(4, "found", 1);
        x.is(BEYOND, "stop", 9, 99, 7, -1).is(5, "found", 1);
        x.is(BEYOND, "gets", 9, 9, 99, 12).is(6, "found", 1);
        x.is(0, "found", 2).is(0, "found", 3).is(0, "found", 4).is(0, "found", 5);
    }

    // ---- Promise 1

    private static void aNewObjectHasNothing() {
        Run x = new Run("1: a new object is empty");
        for (int what = 0; what <= 5; what++) {
            x.is(0, "count", what);
        }
        x.is(2, "count", 6);
        for (int k = 1; k <= 5; k++) {
            x.is(0, "found", k);
        }
        x.is(BEYOND, "way", 0, 1, 0).is(BEYOND, "wish", 0, 0, 0).is(BEYOND, "as", 0, 0);
        x.is(BEYOND, "stock", 0, 0).is(BEYOND, "licence", 0, 0).is(BEYOND, "may", 0, 0, 0);
        x.is(BEYOND, "worth", 0, 0).is(BEYOND, "plan", 0, 0, 1).is(BEYOND, "stop", 0, 0, 1, 0);
        x.is(BEYOND, "left", 0, 0, 1).is(BEYOND, "stand", 0, 0, 0).is(BEYOND, "wrong", 0);
        x.is(BEYOND, "holder", 0).is(BEYOND, "gets", 0, 1, 1, 0).is(BEYOND, "balance", 0, 1, 0, 0);
        x.is(BEYOND, "together", 0, 1, 0).is(BEYOND, "pay", 0, 1).is(BEYOND, "owed", 0, 0);
        x.is(18, "found", 1);
        x.is(0, "owed", -1, 0).is(0, "owed", -1, 2000).is(NONE, "check", 0).is(0, "clear");
        x.is(2, "heat", 2).is(14, "credit", 14);
    }

    private static void streetsWithoutVans() {
        Run x = town("1: STREETS, but no VANS", 2);
        x.is(BEYOND, "may", 0, 0, 0).is(BEYOND, "plan", 0, 0, 1).is(BEYOND, "stop", 0, 0, 1, 0);
        x.is(BEYOND, "left", 0, 0, 1).is(BEYOND, "stand", 0, 0, 0).is(NONE, "holder", 1);
        x.is(BEYOND, "gets", 0, 1, 1, 0).is(BEYOND, "balance", 0, 1, 0, 0);
        x.is(BEYOND, "together", 0, 1, 0).with("tell", 0).is(BEYOND, "check", 0);
    }

    private static void vansWithoutStreets() {
        Run x = town("1: VANS, but no STREETS", 0, 0, 1);
        x.is(BEYOND, "may", 0, 0, 0).is(BEYOND, "plan", 0, 0, 1).is(BEYOND, "stop", 0, 0, 1, 0);
        x.is(BEYOND, "left", 0, 0, 1).is(BEYOND, "stand", 0, 0, 0).is(BEYOND, "holder", 0);
        x.is(BEYOND, "gets", 0, 1, 0, 0).is(NONE, "balance", 0, 1, 0, 0);
        x.is(NONE, "together", 0, 1, 0).with("tell", 0).is(STATE, "check", 0);
    }

    /** Where all is full there is none behind the last one, either. */
    private static void numbersBehindTheLastOfAll() {
        Run x = town("there is no such one, though all are full", 6, 0, 1, 2, 0);
        for (int i = 0; i < 24; i++) {
            x.with("stand", i / 6, 100 * (i % 6) + i % 6, 0);
        }
        for (int b = 0; b < 12; b++) {
            x.with("bill", 1, 0);
        }
        x.is(0, "as", 3, 0).is(BEYOND, "as", 4, 0).is(BEYOND, "stock", 4, 0);
        x.is(BEYOND, "licence", 4, 0).is(BEYOND, "may", 4, 0, 0).is(1, "may", 3, 5, 11);
        x.is(BEYOND, "may", 3, 6, 11).is(BEYOND, "plan", 4, 0, 1).is(BEYOND, "plan", 3, 600, 1);
        x.is(0, "plan", 3, 511, 6).is(BEYOND, "stop", 4, 0, 1, 0).is(BEYOND, "stop", 3, 600, 1, 0);
        x.is(BEYOND, "left", 4, 0, 1).is(BEYOND, "left", 3, 600, 1).is(BEYOND, "stand", 4, 11, 0);
        x.is(BEYOND, "stand", 3, 611, 0).is(BEYOND, "wrong", 24).is(5, "wrong", 23);
        x.is(BEYOND, "way", 5, 6, 0).is(BEYOND, "way", 6, 5, 0).is(BEYOND, "wish", 6, 0, 0);
        x.is(BEYOND, "worth", 6, 0).is(BEYOND, "holder", 6).is(0, "holder", 5);
        x.is(BEYOND, "gets", 4, 0, 0, 0).is(BEYOND, "gets", 0, 4, 0, 0).is(BEYOND, "gets", 0, 3, 60, 0);
        x.is(BEYOND, "gets", 0, 3, 56, 0).is(0, "gets", 0, 3, 55, 0);
        x.is(BEYOND, "balance", 4, 0, 0, 0).is(BEYOND, "balance", 0, 4, 0, 0);
        x.is(BEYOND, "together", 4, 0, 0).is(BEYOND, "together", 0, 4, 0);
        x.is(BEYOND, "pay", 12, 1).is(BEYOND, "owed", 12, 0).is(1, "owed", 11, 0);
        tells(x, 600).is(STATE, "check", 3);
        tells(x, 511).is(BEYOND, "check", 4);
    }

    private static void theLastOfItsCalls() {
        ConeRounds x = new ConeRounds();
        for (int i = 1; i < MOST_CALLS; i++) {
            x.count(7);
        }
        if (x.found(1) != MOST_CALLS - 1) {
            fault("the 512th call: found(1) isn't 511");
        }
    }

    // ---- Promises 2 and 3, Terms 1: STREETS and WAYS

    private static void schoolIsOneOrNot() {
        new Run("2: a SCHOOL (1) or not (0)").range(0, 0, 0, 1, 1, "street", 0).is(2, "count", 0);
        rich("2: a SCHOOL (1) or not (0)").refuses(BEYOND, 0, new int[] {-1, 2, LEAST, MOST},
            "street", 0);
    }

    private static void streetsAreAtMostSix() {
        Run x = new Run("2: at most 6 STREETS");
        for (int s = 0; s < 6; s++) {
            x.is(s, "street", s % 2);
        }
        x.is(FULL, "street", 0).is(FULL, "street", 1).is(6, "count", 0).is(2, "found", 4);
        x.is(BEYOND, "street", 2).is(BEYOND, "street", -1).is(2, "found", 1).is(2, "found", 4);
    }

    private static void wayIsWithinItsRange() {
        rich("3: WAY is 0 .. 3").range(2, 0, 1, 3, 0, "way", 0, 1, 9).is(3, "way", 0, 1, 2)
            .is(2, "way", 1, 0, 2);
    }

    private static void wayIsBetweenStreetsThatAre() {
        Run x = rich("3: there is no such STREET");
        x.range(0, 0, 0, 4, 0, "way", 9, 3, 1).range(1, 0, 1, 4, 1, "way", 3, 9, 2);
        x.is(BEYOND, "way", 5, 5, 0).is(BEYOND, "way", -1, -1, 0);
    }

    private static void wayIsNotWithinOne() {
        Run x = rich("3: they are one");
        for (int s = 0; s < 5; s++) {
            x.is(BEYOND, "way", s, s, 0).is(BEYOND, "way", s, s, 3);
        }
    }

    private static void wayIsZeroAtFirstAndTheSameBothWays() {
        Run x = town("3: 0 at first, the same both ways", 6);
        int v = 0;
        for (int a = 0; a < 6; a++) {
            for (int b = a + 1; b < 6; b++) {
                x.is(0, "way", a, b, v % 4);
                v++;
            }
        }
        v = 0;
        for (int a = 0; a < 6; a++) {
            for (int b = a + 1; b < 6; b++) {
                x.is(v % 4, "way", b, a, 3 - v % 4).is(3 - v % 4, "way", a, b, 0);
                v++;
            }
        }
    }

    // ---- Promises 4, 5 and 12, Terms 1: WISH, HEAT and WORTH

    private static void wishIsWithinItsRange() {
        rich("4: WISH is 0 .. 200").range(2, 0, 40, 200, 0, "wish", 0, 3, 9).is(200, "wish", 0, 3, 7)
            .is(7, "wish", 0, 3, 0);
    }

    private static void wishIsForAStreetAndAnHour() {
        Run x = rich("4: there is no such STREET or HOUR");
        x.range(0, 0, 40, 4, 200, "wish", 9, 3, 1).range(1, 0, 0, 11, 0, "wish", 2, 99, 2);
        x.is(1, "wish", 0, 3, 0).is(1, "wish", 4, 3, 0).is(2, "wish", 2, 0, 0);
        x.is(2, "wish", 2, 11, 0).is(77, "wish", 2, 4, 0);
    }

    private static void wishIsZeroAtFirst() {
        Run x = town("4: WISH is 0 at first", 6);
        for (int s = 0; s < 6; s++) {
            for (int h = 0; h < 12; h++) {
                x.is(0, "wish", s, h, 12 * s + h);
            }
        }
        for (int s = 0; s < 6; s++) {
            for (int h = 0; h < 12; h++) {
                x.is(12 * s + h, "wish", s, h, 0);
            }
        }
    }

    private static void heatIsWithinItsRange() {
        rich("5: HEAT is 0 .. 4").range(0, 0, 3, 4, 0, "heat", 9).is(4, "count", 6);
        new Run("5: HEAT is 2 at first").is(2, "count", 6).is(2, "heat", 1).is(1, "heat", 1);
    }

    private static void worthIsCut() {
        Run x = town("12: WISH times (HEAT and 2), by 4, cut", 1);
        x.with("wish", 0, 0, 200).with("wish", 0, 1, 1).with("wish", 0, 2, 3).with("wish", 0, 3, 199);
        int[][] byHeat = {
            {100, 0, 1, 99}, {150, 0, 2, 149}, {200, 1, 3, 199}, {250, 1, 3, 248}, {300, 1, 4, 298}
        };
        for (int heat = 0; heat <= 4; heat++) {
            x.with("heat", heat);
            for (int h = 0; h < 4; h++) {
                x.is(byHeat[heat][h], "worth", 0, h);
            }
            x.is(0, "worth", 0, 4);
        }
    }

    private static void worthIsOfAStreetAtAnHour() {
        Run x = rich("12: there is no such STREET or HOUR");
        x.range(0, 0, 50, 4, 250, "worth", 9, 3).range(1, 0, 0, 11, 0, "worth", 0, 99);
        x.is(126, "worth", 1, 3).is(96, "worth", 2, 4).is(41, "worth", 0, 9);
    }

    // ---- Promises 6 to 9, Terms 1: VANS

    private static void kindsAreThree() {
        new Run("6: kind is 0 .. 2").range(0, 0, 0, 2, 1, "van", 9).is(2, "count", 1)
            .is(0, "as", 1, 2).is(KIND, "as", 0, 2);
        rich("6: kind is 0 .. 2").refuses(BEYOND, 0, new int[] {-1, 3, LEAST, MOST}, "van", 0);
    }

    private static void vansAreAtMostFour() {
        Run x = rich("6: at most 4 VANS").is(3, "van", 0).is(4, "count", 1);
        x.is(FULL, "van", 0).is(FULL, "van", 1).is(FULL, "van", 2).is(3, "found", 4);
        x.is(BEYOND, "van", 3).is(BEYOND, "van", -1).is(4, "count", 1).is(3, "found", 4);
    }

    private static void asIsOfItsKindOrOneUnderIt() {
        Run x = rich("7: it isn't of that kind, nor of one under it");
        x.is(500, "as", 0, 0).is(KIND, "as", 0, 1).is(KIND, "as", 0, 2);
        x.is(200, "as", 1, 0).is(200, "as", 1, 1).is(KIND, "as", 1, 2);
        x.is(2000, "as", 2, 0).is(KIND, "as", 2, 1).is(2000, "as", 2, 2).is(4, "found", 5);
    }

    private static void asIsOfAVanAndAKind() {
        Run x = rich("7: there is no such one, or kind");
        x.range(0, 0, 500, 2, 2000, "as", 9, 0).range(1, 0, 2000, 2, 2000, "as", 2, 9);
        x.is(BEYOND, "as", 3, 1).is(BEYOND, "as", 0, 3).is(BEYOND, "as", 0, -1).is(0, "found", 5);
    }

    private static void stockIsWithinItsRange() {
        Run x = rich("8: STOCK is 0 .. 2000").range(1, 0, 500, 2000, 0, "stock", 0, 9);
        x.is(2000, "stock", 0, 1).is(1, "as", 0, 0).is(2201, "count", 5);
        rich("8: there is no such VAN").range(0, 0, 500, 2, 2000, "stock", 9, 3)
            .is(206, "count", 5);
        town("8: STOCK is 0 at first", 0, 0, 1, 2, 0).is(0, "stock", 0, 1).is(0, "stock", 1, 1)
            .is(0, "stock", 2, 1).is(0, "stock", 3, 1).is(4, "count", 5);
    }

    private static void licenceIsWithinItsRange() {
        rich("9: LICENCE is 0 .. 63").range(1, 0, 23, 63, 0, "licence", 1, 99).is(63, "licence", 1, 1);
        rich("9: there is no such VAN").range(0, 0, 63, 2, 63, "licence", 9, 5)
            .is(23, "licence", 1, 0);
        town("9: all at first", 0, 0, 1, 2, 0).is(63, "licence", 0, 0).is(63, "licence", 1, 0)
            .is(63, "licence", 2, 0).is(63, "licence", 3, 0);
    }

    private static void licenceIsBits() {
        Run x = town("9: STREETS, as bits", 6, 0, 0);
        for (int s = 0; s < 6; s++) {
            x.with("licence", 0, 1 << s).with("licence", 1, 63 - (1 << s));
            for (int t = 0; t < 6; t++) {
                x.is(s == t ? 1 : 0, "may", 0, t, 0).is(s == t ? 0 : 1, "may", 1, t, 0);
            }
        }
        x.with("licence", 0, 0);
        for (int t = 0; t < 6; t++) {
            x.is(0, "may", 0, t, 0);
        }
        Run y = town("9: a STREET that comes later is in a LICENCE of old", 1, 0);
        y.with("licence", 0, 2).with("street", 0).with("street", 0);
        y.is(1, "may", 0, 1, 0).is(0, "may", 0, 2, 0);
    }

    // ---- Promises 10 and 11: THE LAW and who MAY stand

    private static void lawIsWithinItsRanges() {
        Run x = rich("10: a, b, or seconds aren't as told");
        x.range(0, 0, 1, 11, 1, "law", 99, 4, 9).range(1, 0, 1, 11, 1, "law", 2, 99, 9);
        x.range(2, 0, 1, 60, 1, "law", 2, 4, 99);
        Run y = rich("10: a refused law is none of it").is(BEYOND, "law", 0, 12, 0);
        y.is(BEYOND, "law", 12, 11, 0).is(BEYOND, "law", 0, 11, 61).is(BEYOND, "law", 0, 11, -1);
        y.is(0, "wrong", 0).is(2, "wrong", 2).is(1, "may", 0, 1, 4).is(0, "may", 0, 1, 5);
    }

    private static void lawBarsFromTo() {
        int[][] hours = {{0, 11}, {0, 0}, {11, 11}, {3, 5}, {5, 3}, {11, 0}, {1, 0}, {6, 6}};
        for (int[] law : hours) {
            Run x = new Run("10: from HOUR " + law[0] + " to HOUR " + law[1]);
            x.with("street", 1).with("street", 0).with("van", 0).is(1, "law", law[0], law[1], 12);
            for (int h = 0; h < 12; h++) {
                x.is(h >= law[0] && h <= law[1] ? 0 : 1, "may", 0, 0, h).is(1, "may", 0, 1, h);
            }
        }
    }

    private static void lawBarsNoneAtFirst() {
        Run x = new Run("10: none at first").with("street", 1).with("van", 0);
        for (int h = 0; h < 12; h++) {
            x.is(1, "may", 0, 0, h);
        }
    }

    private static void chimesAboveSeconds() {
        int[] seconds = {0, 1, 12, 59, 60};
        for (int most : seconds) {
            Run x = town("10: chimes above " + most, 1, 0).with("law", 1, 0, most);
            x.with("stand", 0, 0, most).with("stand", 0, 1, most + 1).with("stand", 0, 2, 99);
            x.with("stand", 0, 3, 0);
            x.is(0, "wrong", 0).is(3, "wrong", 1).is(3, "wrong", 2).is(0, "wrong", 3).is(2, "clear");
        }
        Run y = town("10: 12 seconds at first", 1, 0).with("stand", 0, 0, 12).with("stand", 0, 1, 13);
        y.is(0, "wrong", 0).is(3, "wrong", 1);
    }

    private static void mayIsOfAVanAStreetAndAnHour() {
        Run x = rich("11: there is no such VAN, STREET or HOUR");
        x.range(0, 0, 1, 2, 1, "may", 9, 0, 0).range(1, 0, 1, 4, 1, "may", 0, 9, 0);
        x.range(2, 0, 1, 11, 1, "may", 0, 1, 99);
        x.is(1, "may", 0, 1, 4).is(0, "may", 0, 1, 5).is(0, "may", 0, 1, 7).is(1, "may", 0, 1, 8);
        x.is(0, "may", 1, 3, 0).is(1, "may", 1, 2, 0).is(0, "may", 1, 3, 6);
    }

    // ---- Terms 2: a ROUND

    private static Run seller(String sentence, int kind, int stock, int wish) {
        return town(sentence, 1, kind).with("stock", 0, stock).with("wish", 0, 0, wish);
    }

    private static void sellsTheLeastOfStockAndWorth() {
        String text = "13: SELLS the least of its STOCK and of WORTH";
        seller(text, 0, 0, 100).is(0, "plan", 0, 0, 1).is(0, "left", 0, 0, 1);
        seller(text, 0, 99, 100).is(99, "plan", 0, 0, 1).is(0, "left", 0, 0, 1);
        seller(text, 0, 100, 100).is(100, "plan", 0, 0, 1).is(0, "left", 0, 0, 1);
        seller(text, 0, 101, 100).is(100, "plan", 0, 0, 1).is(1, "left", 0, 0, 1);
        seller(text, 0, 2000, 0).is(0, "plan", 0, 0, 1).is(1800, "left", 0, 0, 1);
        seller(text, 0, 2000, 200).with("heat", 4).is(300, "plan", 0, 0, 1)
            .is(1530, "left", 0, 0, 1);
    }

    private static void aBikeSellsThirtyAtMost() {
        String text = "13: of a BIKE of 30";
        seller(text, 1, 100, 29).is(29, "plan", 0, 0, 1).is(57, "left", 0, 0, 1);
        seller(text, 1, 100, 30).is(30, "plan", 0, 0, 1).is(56, "left", 0, 0, 1);
        seller(text, 1, 100, 31).is(30, "plan", 0, 0, 1).is(56, "left", 0, 0, 1);
        seller(text, 1, 29, 31).is(29, "plan", 0, 0, 1).is(0, "left", 0, 0, 1);
        seller(text, 2, 100, 31).is(31, "plan", 0, 0, 1).is(69, "left", 0, 0, 1);
        seller(text, 0, 100, 31).is(31, "plan", 0, 0, 1).is(63, "left", 0, 0, 1);
        seller("13: half of WORTH, then 30", 1, 500, 200).with("wish", 0, 1, 59)
            .is(30 + 29, "plan", 0, 0, 2).with("wish", 0, 1, 61).is(60, "plan", 0, 0, 2)
            .with("wish", 0, 1, 62).is(60, "plan", 0, 0, 2);
    }

    private static void aTenthMelts() {
        int[][] left = {{0, 0}, {1, 1}, {9, 9}, {10, 9}, {19, 18}, {20, 18}, {2000, 1800}};
        for (int[] row : left) {
            seller("15: a tenth is gone, cut", 0, row[0], 0).is(row[1], "left", 0, 0, 1);
        }
    }

    private static void ofABikeAFifthMelts() {
        int[][] left = {{0, 0}, {1, 1}, {4, 4}, {5, 4}, {9, 8}, {10, 8}, {2000, 1600}};
        for (int[] row : left) {
            seller("15: of a BIKE a fifth is gone, cut", 1, row[0], 0).is(row[1], "left", 0, 0, 1);
        }
    }

    private static void ofACartNothingMelts() {
        int[] stocks = {0, 1, 10, 2000};
        for (int stock : stocks) {
            seller("15: of a CART nothing is gone", 2, stock, 0).is(stock, "left", 0, 0, 1);
        }
    }

    private static void whatMeltedIsNotSold() {
        String text = "13: it melts between STANDS";
        int[] sold = {50 + 45, 30 + 30, 50 + 50};
        for (int kind = 0; kind < 3; kind++) {
            Run x = seller(text, kind, 100, 50).with("wish", 0, 1, 200);
            x.is(sold[kind], "plan", 0, 0, 2);
        }
        seller(text, 1, 60, 30).with("wish", 0, 1, 200).is(30 + 24, "plan", 0, 0, 2);
    }

    private static Run rounder(String sentence, int kind) {
        Run x = town(sentence, 3, kind).with("stock", 0, 2000);
        for (int h = 0; h < 6; h++) {
            x.with("wish", 0, h, 101).with("wish", 1, h, 11);
        }
        return x;
    }

    private static Run tells(Run x, int... row) {
        for (int at : row) {
            x.with("tell", at);
        }
        return x;
    }

    private static void halfBehindOneOrTwoHours() {
        tells(rounder("28: one HOUR ahead is a half, cut", 2), 0, 1).is(101 + 50, "check", 0);
        tells(rounder("28: two HOURS ahead is a half", 0), 0, 101, 2).is(101 + 11 + 50, "check", 0);
        tells(rounder("28: three HOURS ahead is whole", 0), 0, 101, 102, 3)
            .is(101 + 11 + 5 + 101, "check", 0);
        tells(rounder("28: one and two HOURS ahead is one half", 2), 0, 1, 2, 3)
            .is(101 + 50 + 50 + 50, "check", 0);
        tells(rounder("28: of a CART four HOURS ahead is whole", 2), 0, 102, 4)
            .is(101 + 11 + 101, "check", 0);
        tells(rounder("28: another STREET one HOUR ahead is no half", 0), 0, 101).is(112, "check", 0);
        tells(rounder("28: one that comes later is no half", 0), 101, 2).is(112, "check", 0);
        tells(rounder("28: half of WORTH 1 is 0", 2).with("wish", 0, 1, 1), 0, 1)
            .is(101, "check", 0);
    }

    private static void halfInAPlan() {
        Run x = town("13: half if there one or two HOURS ahead", 2, 0).with("stock", 0, 2000);
        x.with("wish", 0, 0, 100).with("wish", 0, 2, 100).with("wish", 0, 3, 100);
        x.is(100 + 50 + 50, "plan", 0, 0, 4).is(1, "stop", 0, 0, 4, 1).is(3, "stop", 0, 0, 4, 3);
        x.with("wish", 1, 1, 60).with("wish", 1, 2, 60);
        x.is(100 + 60 + 30 + 100, "plan", 0, 0, 4).is(102, "stop", 0, 0, 4, 2)
            .is(3, "stop", 0, 0, 4, 3);
    }

    private static void theNextStandIsWhenItComesThere() {
        for (int kind = 0; kind < 3; kind++) {
            for (int way = 0; way <= 3; way++) {
                int then = 1 + way + (kind == 2 ? 1 : 0);
                Run x = town("28: kind " + kind + ", 1 and WAY " + way, 2, kind).with("way", 1, 0, way);
                tells(x, 2, 102 + then).is(0, "check", 0);
                tells(x, 102, 2 + then).is(0, "check", 0);
                tells(x, 2, 101 + then).is(STATE, "check", 0);
                tells(x, 2, 103 + then).is(STATE, "check", 0);
            }
            Run x = town("28: kind " + kind + ", the same STREET", 2, kind).with("way", 1, 0, 3);
            tells(x, 2, 3).is(0, "check", 0);
            tells(x, 2, 2).is(STATE, "check", 0);
            tells(x, 2, 4).is(STATE, "check", 0);
            tells(x, 2, 1).is(STATE, "check", 0);
        }
    }

    // ---- Promises 13 to 15: THE PLAN

    private static final int[] NO_PLACES = {-1, 12, 99, 112, 412, 500, 511, 600, -100, -99, -89,
        LEAST, LEAST + 48, MOST, MOST - 47, MOST - 40, 65536, 65539};

    private static void planIsOfAVanAPlaceAndHours() {
        Run x = rich("13: there is no such VAN, STREET, HOUR, or n isn't 1 .. 6");
        x.range(0, 0, 50, 2, 50, "plan", 9, 3, 1).range(2, 1, 50, 6, 50 + 96, "plan", 0, 3, 9);
        x.refuses(BEYOND, 1, NO_PLACES, "plan", 0, 9, 1);
        x.is(0, "plan", 0, 0, 1).is(0, "plan", 0, 11, 1).is(0, "plan", 0, 400, 1);
        x.is(0, "plan", 0, 411, 1).is(250, "plan", 0, 403, 1);
    }

    private static void stopIsOfAVanAPlaceAndHours() {
        Run x = rich("14: BEYOND as of plan()");
        x.range(0, 0, 3, 2, 3, "stop", 9, 3, 1, 0).range(2, 1, 3, 6, 3, "stop", 0, 3, 9, 0);
        x.refuses(BEYOND, 1, NO_PLACES, "stop", 0, 9, 1, 0);
        x.is(0, "stop", 0, 0, 1, 0).is(11, "stop", 0, 11, 1, 0).is(400, "stop", 0, 400, 1, 0);
        x.is(411, "stop", 0, 411, 1, 0);
    }

    private static void leftIsOfAVanAPlaceAndHours() {
        Run x = rich("15: BEYOND as of plan()");
        x.range(0, 0, 405, 2, 1950, "left", 9, 3, 1);
        x.range(2, 1, 405, 6, 279, "left", 0, 3, 9);
        x.refuses(BEYOND, 1, NO_PLACES, "left", 0, 9, 1);
        x.is(450, "left", 0, 0, 1).is(450, "left", 0, 411, 1);
    }

    private static void planIsNotWhereItMayNotStand() {
        Run x = rich("13: it may not stand there then");
        int[] barred = {105, 106, 107, 305, 307};
        for (int at : barred) {
            x.is(STATE, "plan", 0, at, 1).is(STATE, "stop", 0, at, 1, 0).is(STATE, "left", 0, at, 1);
        }
        x.is(STATE, "plan", 1, 300, 6).is(STATE, "stop", 1, 300, 6, 0).is(STATE, "left", 1, 300, 6);
        x.is(0, "plan", 0, 104, 1).is(0, "plan", 0, 108, 1).is(0, "plan", 0, 5, 1);
        x.with("licence", 0, 0).is(STATE, "plan", 0, 0, 1).is(STATE, "left", 0, 411, 6);
    }

    private static void planAsksBeyondAheadOfState() {
        Run x = rich("13 to 15: BEYOND, then STATE, then NONE");
        int[] wrongHours = {0, 7, -1, LEAST, MOST};
        x.refuses(BEYOND, 2, wrongHours, "plan", 1, 300, 9);
        x.refuses(BEYOND, 2, wrongHours, "left", 1, 300, 9);
        x.refuses(BEYOND, 2, wrongHours, "stop", 1, 300, 9, 0);
        x.is(BEYOND, "stop", 0, 3, 7, -1).is(BEYOND, "stop", 3, 3, 1, 99).is(0, "found", 2);
        x.is(STATE, "stop", 1, 300, 1, -1).is(STATE, "stop", 1, 300, 1, 1).is(0, "found", 2);
        x.is(STATE, "stop", 1, 300, 1, LEAST).is(STATE, "stop", 1, 300, 1, MOST).is(0, "found", 2);
    }

    private static void stopHasNoneSuch() {
        Run x = rich("14: it has none such");
        x.refuses(NONE, 3, new int[] {-1, 1, 2, LEAST, MOST}, "stop", 0, 403, 1, 9);
        x.is(403, "stop", 0, 403, 1, 0);
        Run y = town("14: six STANDS at most", 1, 2).with("stock", 0, 2000);
        for (int h = 0; h < 12; h++) {
            y.with("wish", 0, h, 20);
        }
        for (int i = 0; i < 6; i++) {
            y.is(3 + i, "stop", 0, 3, 6, i);
        }
        y.refuses(NONE, 3, new int[] {-1, 6, LEAST, MOST}, "stop", 0, 3, 6, 9);
    }

    private static void planIsOfThoseHours() {
        for (int k = 1; k <= 6; k++) {
            Run x = town("13: STANDS in those n HOURS, n " + k, 1, 2).with("stock", 0, 2000);
            x.with("wish", 0, 3 + k, 10);
            x.is(0, "plan", 0, 3, k).is(NONE, "stop", 0, 3, k, 1);
            if (k < 6) {
                x.is(5, "plan", 0, 3, k + 1).is(3 + k, "stop", 0, 3, k + 1, k);
                x.is(NONE, "stop", 0, 3, k + 1, k + 1).is(1995, "left", 0, 3, k + 1);
            }
        }
    }

    private static void planGoesFarInThoseHours() {
        for (int kind = 0; kind < 3; kind++) {
            for (int way = 0; way <= 3; way++) {
                int then = 1 + way + (kind == 2 ? 1 : 0);
                Run x = town("13: WAY " + way + " of kind " + kind, 2, kind).with("stock", 0, 2000);
                x.with("way", 0, 1, way).with("wish", 1, then, 10).with("wish", 1, then - 1, 7);
                x.is(0, "plan", 0, 0, then).is(10, "plan", 0, 0, then + 1);
                x.is(100 + then, "stop", 0, 0, then + 1, 1).is(NONE, "stop", 0, 0, then + 1, 2);
            }
        }
    }

    private static void planHasNoneBehindHourEleven() {
        Run x = town("13: none behind HOUR 11", 2, 2).with("stock", 0, 2000).with("wish", 0, 11, 10);
        x.with("wish", 1, 0, 50).with("wish", 1, 11, 30);
        x.is(10, "plan", 0, 11, 1).is(10, "plan", 0, 11, 6).is(NONE, "stop", 0, 11, 6, 1);
        x.is(5, "plan", 0, 10, 6).is(11, "stop", 0, 10, 6, 1).is(NONE, "stop", 0, 10, 6, 2);
        x.is(30, "plan", 0, 9, 6).is(111, "stop", 0, 9, 6, 1).is(30, "plan", 0, 9, 3);
        x.is(0, "plan", 0, 9, 2);
        x.is(30, "plan", 0, 6, 6).is(0, "plan", 0, 5, 6);
        x.with("way", 0, 1, 3).is(30, "plan", 0, 6, 6).is(5, "plan", 0, 7, 6);
    }

    private static void planPassesWhereItMayNotStand() {
        Run x = new Run("13: in which it MAY stand");
        x.with("street", 1).with("street", 0).with("van", 0).with("stock", 0, 2000);
        x.with("law", 1, 2, 12);
        for (int h = 0; h < 5; h++) {
            x.with("wish", 0, h, 100);
        }
        x.is(100, "plan", 0, 0, 3).is(NONE, "stop", 0, 0, 3, 1);
        x.is(200, "plan", 0, 0, 4).is(101, "stop", 0, 0, 4, 1).is(102, "stop", 0, 0, 4, 2);
        x.is(3, "stop", 0, 0, 4, 3).is(250, "plan", 0, 0, 5);
        x.with("licence", 0, 1).is(100, "plan", 0, 0, 6);
    }

    private static void ofSeveralPlansTheFirst() {
        Run x = town("13: one that ends comes ahead of one that goes on", 3, 0).with("stock", 0, 2000);
        x.is(0, "plan", 0, 0, 6).is(0, "stop", 0, 0, 6, 0).is(NONE, "stop", 0, 0, 6, 1);
        x.is(1800, "left", 0, 0, 6);
        Run y = town("13: compared by STREETS, the first ones first", 3, 0).with("stock", 0, 2000);
        y.with("wish", 1, 1, 10).with("wish", 2, 2, 10).with("wish", 2, 1, 10).with("wish", 1, 2, 10);
        y.is(20, "plan", 0, 0, 3).is(101, "stop", 0, 0, 3, 1).is(202, "stop", 0, 0, 3, 2);
        y.with("wish", 2, 1, 11).is(201, "stop", 0, 0, 3, 1).is(102, "stop", 0, 0, 3, 2);
        Run z = town("13: STREETS ahead of how many STANDS there are", 3, 2).with("stock", 0, 10);
        z.with("wish", 2, 2, 10).with("wish", 2, 3, 10);
        z.is(10, "plan", 0, 0, 6).is(1, "stop", 0, 0, 6, 1).is(203, "stop", 0, 0, 6, 2);
        z.is(NONE, "stop", 0, 0, 6, 3).is(0, "left", 0, 0, 6);
        z.is(10, "plan", 0, 0, 3).is(202, "stop", 0, 0, 3, 1).is(NONE, "stop", 0, 0, 3, 2);
    }

    private static void planOfSixStreetsAndSixHours() {
        Run x = town("13: the widest PLAN", 6, 0).with("stock", 0, 2000).with("heat", 4);
        int[] best = {5, 4, 3, 2, 1, 0};
        for (int h = 0; h < 6; h++) {
            x.with("wish", best[h], h + 6, 100);
        }
        x.is(900, "plan", 0, 506, 6);
        for (int i = 0; i < 6; i++) {
            x.is(100 * best[i] + 6 + i, "stop", 0, 506, 6, i);
        }
        // 150 are sold at each, then 185, 151, 121, 94, 69 and 48 melt.
        x.is(2000 - 900 - 668, "left", 0, 506, 6);
    }

    // ---- Promises 16 to 19: STANDS

    private static void standIsOfAVanAPlaceAndAChime() {
        Run x = rich("16: there is no such VAN, STREET, HOUR, or chime");
        x.refuses(BEYOND, 1, NO_PLACES, "stand", 2, 9, 0);
        x.range(0, 0, 3, 2, 4, "stand", 9, 10, 0);
    }

    private static void chimeIsWithinItsRange() {
        Run x = rich("16: chime is 0 .. 99");
        int[] chimes = {-1, 100, LEAST, MOST};
        x.refuses(BEYOND, 2, chimes, "stand", 2, 0, 9);
        x.is(3, "stand", 2, 0, 0).refuses(BEYOND, 2, chimes, "stand", 2, 1, 9);
        x.is(4, "stand", 2, 1, 99).is(0, "wrong", 3).is(3, "wrong", 4);
    }

    private static void hoursOfOneVanRise() {
        Run x = rich("16: the HOUR isn't behind that of this VAN's latest STAND");
        x.is(STATE, "stand", 0, 6, 0).is(STATE, "stand", 0, 106, 0).is(STATE, "stand", 0, 5, 0);
        x.is(STATE, "stand", 0, 0, 0).is(STATE, "stand", 0, 403, 0);
        x.is(3, "stand", 0, 7, 0).is(STATE, "stand", 0, 7, 0).is(4, "stand", 1, 4, 0);
        x.is(5, "stand", 2, 0, 0).is(6, "stand", 0, 411, 0).is(STATE, "stand", 0, 11, 0);
        x.is(STATE, "stand", 0, 0, 0).is(8, "found", 3);
        x.with("clear").is(0, "stand", 0, 0, 0).is(STATE, "stand", 0, 0, 0).is(1, "stand", 0, 1, 0);
    }

    private static void aRefusedStandIsNotTheLatest() {
        Run x = rich("16: a refused STAND isn't the latest");
        x.is(BEYOND, "stand", 0, 10, 100).is(BEYOND, "stand", 0, 12, 0).is(STATE, "stand", 0, 2, 0);
        x.is(3, "stand", 0, 7, 0).is(4, "count", 2);
    }

    private static void aStandMayBeWrong() {
        Run x = rich("16: a STAND is told though it is WRONG");
        x.is(3, "stand", 1, 306, 99).is(1, "wrong", 3).is(4, "stand", 2, 305, 99).is(2, "wrong", 4);
    }

    private static Run fullDay(String sentence) {
        Run x = town(sentence, 2, 0, 1, 2);
        for (int i = 0; i < 23; i++) {
            x.with("stand", i / 11, 100 * (i / 22) + (i % 11), i);
        }
        return x;
    }

    private static void standsAreAtMostTwentyFour() {
        Run x = fullDay("16: at most 24 STANDS").is(23, "count", 2).is(23, "stand", 2, 105, 0);
        x.is(24, "count", 2).is(FULL, "stand", 2, 6, 0).is(FULL, "stand", 0, 111, 99);
        x.is(2, "found", 4).is(24, "count", 2).is(0, "wrong", 23).is(BEYOND, "wrong", 24);
    }

    private static void standAsksBeyondThenStateThenFull() {
        Run x = fullDay("16: BEYOND, then STATE, then FULL").with("stand", 2, 105, 0);
        x.is(STATE, "stand", 0, 10, 0).is(STATE, "stand", 2, 5, 0).is(0, "found", 4);
        x.is(BEYOND, "stand", 0, 10, 100).is(BEYOND, "stand", 2, 5, -1).is(BEYOND, "stand", 3, 0, 0);
        x.is(BEYOND, "stand", 0, 212, 0).is(2, "found", 3).is(0, "found", 4);
        x.is(BEYOND, "stand", 2, 6, 100).is(FULL, "stand", 2, 6, 99).is(1, "found", 4);
        x.with("clear").is(0, "stand", 0, 0, 0);
        Run y = rich("16: BEYOND ahead of STATE").is(BEYOND, "stand", 0, 6, 100).is(0, "found", 3);
        y.is(STATE, "stand", 0, 6, 99);
    }

    private static void wrongIsOfAStandThatWasTold() {
        Run x = rich("17: BEYOND").range(0, 0, 0, 2, 2, "wrong", 99).is(3, "wrong", 1);
        x.with("clear").is(BEYOND, "wrong", 0).is(BEYOND, "wrong", 2).is(BEYOND, "wrong", -1);
        x.with("stand", 0, 0, 0).is(0, "wrong", 0).is(BEYOND, "wrong", 1);
    }

    private static void wrongIsTheFirstOfFive() {
        Run x = new Run("17: WRONG with one, the first of").with("street", 1).with("street", 0);
        x.with("van", 0).with("van", 1).with("way", 0, 1, 1);
        x.with("stand", 1, 2, 0).with("stand", 0, 101, 0).with("stand", 0, 2, 30);
        x.with("law", 2, 2, 29).with("licence", 0, 2);
        x.is(1, "wrong", 2).with("licence", 0, 1).is(2, "wrong", 2);
        x.with("law", 3, 11, 29).is(3, "wrong", 2).with("law", 0, 1, 30).is(4, "wrong", 2);
        x.with("way", 0, 1, 0).is(5, "wrong", 2).is(0, "wrong", 0);
        x.with("law", 2, 2, 30).is(2, "wrong", 0).with("licence", 1, 0).is(1, "wrong", 0);
    }

    private static void wrongByTheLawAtItsHours() {
        Run x = new Run("17: THE LAW bars it").with("street", 1).with("van", 2).with("law", 3, 5, 60);
        for (int h = 0; h < 12; h++) {
            x.with("stand", 0, h, 0);
        }
        for (int h = 0; h < 12; h++) {
            x.is(h >= 3 && h <= 5 ? 2 : 0, "wrong", h);
        }
        x.is(3, "clear");
    }

    private static void wrongIfItCouldNotBeThereSoSoon() {
        for (int kind = 0; kind < 3; kind++) {
            for (int way = 0; way <= 3; way++) {
                int need = 1 + way + (kind == 2 ? 1 : 0);
                Run x = town("17: kind " + kind + " so soon by WAY " + way, 2, kind);
                x.with("way", 0, 1, way).with("stand", 0, 2, 0).with("stand", 0, 102 + need, 0);
                x.is(0, "wrong", 0).is(0, "wrong", 1).is(0, "clear");
                if (need > 1) {
                    x.with("stand", 0, 2, 0).with("stand", 0, 101 + need, 0);
                    x.is(0, "wrong", 0).is(4, "wrong", 1).is(1, "clear");
                }
                x.with("stand", 0, 102, 0).with("stand", 0, 103, 0).with("stand", 0, 111, 0);
                x.is(0, "clear");
            }
        }
    }

    private static void soonIsBehindTheStandToldAheadOfIt() {
        Run x = town("17: behind its STAND told ahead of it", 3, 0, 2).with("way", 0, 2, 3);
        x.with("stand", 0, 0, 0).with("stand", 0, 101, 0).with("stand", 1, 1, 0);
        x.with("stand", 0, 202, 0).with("stand", 1, 203, 0).with("stand", 0, 203, 0);
        x.is(0, "wrong", 0).is(0, "wrong", 1).is(0, "wrong", 2).is(0, "wrong", 3);
        x.is(4, "wrong", 4).is(5, "wrong", 5).is(2, "clear");
    }

    private static void wrongIfAnotherIsThere() {
        Run x = town("17: another VAN with a lesser number in that STREET at that HOUR", 2, 0, 0, 0, 0);
        x.with("stand", 3, 5, 0).with("stand", 1, 5, 0).with("stand", 0, 5, 0);
        x.with("stand", 2, 105, 0).with("stand", 2, 6, 0).with("stand", 3, 6, 0);
        x.is(0, "wrong", 0).is(5, "wrong", 1).is(5, "wrong", 2).is(0, "wrong", 3);
        x.is(0, "wrong", 4).is(5, "wrong", 5).is(3, "clear");
        Run y = town("17: one that is WRONG itself is there, too", 1, 0, 0).with("licence", 0, 0);
        y.with("stand", 0, 0, 99).with("stand", 1, 0, 0).is(1, "wrong", 0).is(5, "wrong", 1);
    }

    private static void clearEmptyAndFull() {
        rich("18: none were told").with("clear").is(0, "clear").is(0, "count", 2).is(0, "clear");
        rich("18: how many were WRONG").is(2, "clear").is(0, "count", 2).is(NONE, "holder", 0);
        Run x = fullDay("18: all 24").with("stand", 2, 105, 99);
        // All 11 of the BIKE are where the VAN was told ahead; both chimes of the CART are too long.
        x.is(13, "clear").is(0, "count", 2).is(0, "stand", 2, 0, 0);
        Run y = town("18: all are WRONG", 1, 0, 1, 2);
        for (int i = 0; i < 24; i++) {
            y.with("stand", i / 12, i % 12, 99);
        }
        y.is(24, "clear").is(0, "clear");
    }

    private static void holderOfNone() {
        Run x = rich("19: none without").is(NONE, "holder", 2).is(NONE, "holder", 3);
        x.is(NONE, "holder", 4).is(3, "found", 2).with("clear").is(NONE, "holder", 0);
        rich("19: BEYOND").range(0, 0, 0, 4, NONE, "holder", 9).is(0, "holder", 1);
        town("19: BEYOND, not NONE", 6).is(BEYOND, "holder", 6).is(NONE, "holder", 5);
    }

    private static void holderOfSeveral() {
        Run x = town("19: the most STANDS, of several the least number", 2, 0, 0, 0, 0);
        x.with("stand", 3, 0, 0).is(3, "holder", 0).with("stand", 2, 0, 99).is(2, "holder", 0);
        x.with("stand", 3, 1, 0).is(3, "holder", 0).with("stand", 1, 0, 0).is(3, "holder", 0);
        x.with("stand", 1, 2, 0).is(1, "holder", 0).with("stand", 0, 100, 0).is(1, "holder", 0);
        x.with("stand", 0, 101, 0).with("stand", 0, 102, 0).is(1, "holder", 0).is(0, "holder", 1);
        x.with("stand", 0, 3, 0).is(1, "holder", 0).with("stand", 0, 4, 0).is(0, "holder", 0);
        x.with("licence", 0, 0).is(0, "holder", 0);
    }

    // ---- Promises 20 to 22: TWO VANS

    private static void getsIsOfTwoVansTwoStreetsAndAnHour() {
        Run x = rich("20: there is no such VAN, STREET, HOUR");
        x.range(0, 0, 50, 2, 50, "gets", 9, 1, 4, 3).range(1, 0, 126, 2, 126, "gets", 1, 9, 10, 3);
        x.range(3, 0, 0, 11, 0, "gets", 0, 1, 4, 99);
        x.refuses(BEYOND, 2, new int[] {-1, 5, 9, 15, 45, 50, 54, 100, -10, -5, LEAST, LEAST + 8, MOST,
            MOST - 7, 65536}, "gets", 0, 2, 99, 3);
        x.is(33, "gets", 0, 2, 0, 3).is(250, "gets", 0, 2, 43, 3).is(0, "gets", 0, 2, 34, 3);
    }

    private static void getsIsOfTwo() {
        Run x = rich("20: they are one VAN");
        for (int v = 0; v < 3; v++) {
            x.is(BEYOND, "gets", v, v, 4, 3).is(BEYOND, "gets", v, v, 0, 3);
            x.is(BEYOND, "balance", v, v, 3, 0).is(BEYOND, "together", v, v, 3);
        }
    }

    private static void getsWhereOneMayNotStand() {
        Run x = rich("20: one may not stand there");
        x.is(STATE, "gets", 0, 1, 3, 0).is(STATE, "gets", 1, 0, 30, 0).is(STATE, "gets", 0, 2, 13, 5);
        x.is(STATE, "gets", 0, 2, 10, 5).is(STATE, "gets", 0, 2, 1, 5).is(0, "gets", 0, 2, 4, 5);
        x.is(0, "gets", 0, 2, 10, 4).is(0, "gets", 0, 2, 10, 8).is(STATE, "gets", 0, 2, 10, 7);
        x.with("licence", 1, 0).is(STATE, "gets", 0, 1, 0, 0).is(STATE, "gets", 1, 0, 0, 0);
        x.is(BEYOND, "gets", 0, 1, 0, 12).is(BEYOND, "gets", 0, 1, 5, 0).is(BEYOND, "gets", 1, 1, 0, 0);
        x.is(BEYOND, "gets", 1, 3, 0, 0).is(BEYOND, "gets", 1, 0, 50, 0).is(8, "found", 3);
    }

    private static void sharesAreCut() {
        int[][] shares = {
            {0, 0, 0, 0}, {1, 0, 0, 0}, {2, 1, 0, 1}, {3, 2, 1, 1}, {4, 2, 1, 2}, {5, 3, 1, 2},
            {101, 67, 33, 50}, {200, 133, 66, 100}
        };
        for (int[] row : shares) {
            Run x = town("20: shares of WORTH " + row[0], 2, 0, 0, 0).with("wish", 0, 4, row[0]);
            x.is(row[3], "gets", 0, 1, 0, 4).is(row[3], "gets", 1, 0, 0, 4);
            x.is(row[0], "gets", 0, 1, 1, 4);
            x.with("stand", 2, 0, 0).is(row[3], "gets", 0, 1, 0, 4).is(row[3], "gets", 1, 0, 0, 4);
            x.is(row[1], "gets", 2, 0, 0, 4).is(row[2], "gets", 0, 2, 0, 4);
            x.with("stand", 0, 0, 0).is(row[1], "gets", 0, 2, 0, 4).is(row[2], "gets", 2, 0, 0, 4);
            x.is(row[0], "gets", 2, 0, 1, 4).is(0, "gets", 2, 0, 10, 4);
        }
        Run y = town("20: the most", 1, 0, 0).with("wish", 0, 4, 200).with("heat", 4);
        y.is(150, "gets", 0, 1, 0, 4).with("stand", 1, 0, 0).is(200, "gets", 1, 0, 0, 4);
        y.is(100, "gets", 0, 1, 0, 4);
    }

    private static void balanceIsOfTwoVansAndAnHour() {
        Run x = rich("21: there is no such VAN, HOUR, or i is below 0");
        x.range(0, 0, 14, 2, 14, "balance", 9, 1, 3, 0).range(1, 0, 14, 2, 14, "balance", 1, 9, 3, 0);
        x.range(2, 0, 0, 11, 0, "balance", 0, 1, 99, 0);
        x.is(BEYOND, "balance", 0, 1, 3, -1).is(BEYOND, "balance", 0, 1, 3, LEAST);
        x.is(14, "balance", 0, 2, 3, 0).is(41, "balance", 0, 2, 3, 1).is(NONE, "balance", 0, 2, 3, 2);
        x.is(NONE, "balance", 0, 2, 3, MOST);
        x.with("licence", 0, 0).is(NONE, "balance", 0, 2, 3, 0).is(BEYOND, "balance", 0, 2, 3, -1);
        x.is(BEYOND, "balance", 0, 0, 3, 0).is(BEYOND, "balance", 0, 2, 12, 0);
    }

    private static void balancesInTheirOrder() {
        Run x = town("21: in order of the first VAN's STREET, then the other one's", 6, 0, 0);
        for (int i = 0; i < 36; i++) {
            x.is(10 * (i / 6) + i % 6, "balance", 0, 1, 11, i);
        }
        x.is(NONE, "balance", 0, 1, 11, 36).is(NONE, "balance", 0, 1, 11, 37);
    }

    private static void balanceIfNeitherWouldGetMore() {
        Run x = town("21: neither would get more", 2, 0, 0);
        x.with("wish", 0, 0, 100).with("wish", 1, 0, 50);
        x.is(0, "balance", 0, 1, 0, 0).is(1, "balance", 0, 1, 0, 1).is(10, "balance", 0, 1, 0, 2);
        x.is(NONE, "balance", 0, 1, 0, 3);
        x.with("wish", 1, 0, 51).is(1, "balance", 0, 1, 0, 0).is(10, "balance", 0, 1, 0, 1);
        x.is(NONE, "balance", 0, 1, 0, 2);
        x.with("wish", 1, 0, 49).is(0, "balance", 0, 1, 0, 0).is(NONE, "balance", 0, 1, 0, 1);
        x.with("stand", 1, 0, 0).is(10, "balance", 0, 1, 0, 0).is(NONE, "balance", 0, 1, 0, 1);
        x.with("wish", 1, 0, 33).is(0, "balance", 0, 1, 0, 0).is(10, "balance", 0, 1, 0, 1);
        x.is(NONE, "balance", 0, 1, 0, 2);
    }

    private static void balanceWhereItMayStand() {
        Run x = town("21: in another STREET in which it MAY stand", 2, 0, 0).with("wish", 0, 0, 100);
        x.with("wish", 1, 0, 99).with("licence", 0, 1).with("licence", 1, 1);
        x.is(0, "balance", 0, 1, 0, 0).is(NONE, "balance", 0, 1, 0, 1);
        x.with("licence", 1, 3).is(1, "balance", 0, 1, 0, 0).is(NONE, "balance", 0, 1, 0, 1);
        x.is(10, "balance", 1, 0, 0, 0).with("licence", 1, 0).is(NONE, "balance", 0, 1, 0, 0);
        x.is(NONE, "balance", 1, 0, 0, 0).with("licence", 1, 60).is(NONE, "balance", 0, 1, 0, 0);
        Run y = new Run("21: THE LAW bars it then").with("street", 1).with("street", 0);
        y.with("van", 0).with("van", 0).with("wish", 0, 5, 100).with("wish", 0, 6, 100);
        y.with("law", 5, 5, 12).is(11, "balance", 0, 1, 5, 0).is(NONE, "balance", 0, 1, 5, 1);
        y.is(0, "balance", 0, 1, 6, 0).is(NONE, "balance", 0, 1, 6, 1);
    }

    private static void togetherIsOfTwoVansAndAnHour() {
        Run x = rich("22: BEYOND as of balance()");
        x.range(0, 0, 14, 2, 14, "together", 9, 1, 3).range(1, 0, 14, 2, 14, "together", 1, 9, 3);
        x.range(2, 0, 0, 11, 0, "together", 0, 1, 99);
        x.with("licence", 0, 0).is(BEYOND, "together", 0, 0, 3).is(BEYOND, "together", 0, 1, 12);
        x.is(BEYOND, "together", 0, 3, 3).is(0, "found", 2);
    }

    private static void togetherWhereOneMayStandNowhere() {
        Run x = rich("22: one may stand nowhere").with("licence", 1, 0);
        x.is(NONE, "together", 0, 1, 3).is(NONE, "together", 1, 0, 3).is(14, "together", 0, 2, 3);
        x.with("licence", 1, 32).is(NONE, "together", 0, 1, 3).is(NONE, "together", 1, 0, 3);
        x.is(NONE, "balance", 0, 1, 3, 0).is(NONE, "balance", 1, 0, 3, 0).with("licence", 1, 16);
        x.is(14, "together", 0, 1, 3).is(41, "together", 1, 0, 3);
        x.with("licence", 1, 8).is(43, "together", 0, 1, 3).is(NONE, "together", 0, 1, 5);
        x.is(NONE, "together", 1, 0, 7).is(3, "together", 0, 1, 8).is(8, "found", 2);
    }

    private static void togetherTheFirstSuch() {
        Run x = town("22: the first such in that order", 3, 0, 0).is(0, "together", 0, 1, 0);
        x.with("wish", 0, 0, 9).is(1, "together", 0, 1, 0).with("wish", 0, 0, 10);
        x.is(0, "together", 0, 1, 0).with("stand", 0, 1, 0).is(1, "together", 0, 1, 0);
        x.with("wish", 0, 0, 9).is(0, "together", 0, 1, 0);
        x.with("wish", 1, 0, 9).with("wish", 2, 0, 9).is(1, "together", 0, 1, 0);
        x.with("wish", 2, 0, 10).is(2, "together", 0, 1, 0).is(2, "together", 1, 0, 0);
    }

    // ---- Promises 23 to 26: BILLS

    private static void creditIsWithinItsRange() {
        rich("23: CREDIT is 0 .. 60").range(0, 0, 21, 60, 0, "credit", 99).is(60, "credit", 1);
        new Run("23: 14 at first").is(14, "credit", 0).is(0, "credit", 0);
    }

    private static void billIsWithinItsRanges() {
        rich("24: COINS are 1 .. 10000").range(0, 1, 2, 10000, 3, "bill", 99, 5).is(1, "owed", 2, 5)
            .is(10000, "owed", 3, 5);
        rich("24: a DAY is 0 .. 1000").range(1, 0, 2, 1000, 3, "bill", 8, 9999).is(8, "owed", 2, 0)
            .is(0, "owed", 3, 999).is(8, "owed", 3, 1000);
    }

    private static void billsAreAtMostTwelve() {
        Run x = rich("24: at most 12 BILLS");
        for (int b = 2; b < 12; b++) {
            x.is(b, "bill", b, b);
        }
        x.is(FULL, "bill", 1, 0).is(FULL, "bill", 10000, 1000).is(12, "count", 3).is(2, "found", 4);
        x.is(BEYOND, "bill", 0, 0).is(BEYOND, "bill", 10001, 0).is(BEYOND, "bill", 1, -1);
        x.is(BEYOND, "bill", 1, 1001).is(2, "found", 4).is(4, "found", 1);
        x.with("pay", 11, 11).is(FULL, "bill", 1, 0).is(12, "count", 3).is(0, "owed", 11, 11);
        x.is(BEYOND, "owed", 12, 0).is(BEYOND, "pay", 12, 1);
    }

    private static void payIsOfABillAndCoins() {
        Run x = rich("25: there is no such BILL, or coins is below 1");
        x.range(0, 0, 499, 1, 48, "pay", 9, 1);
        x.refuses(BEYOND, 1, new int[] {0, -1, LEAST}, "pay", 0, 9).is(498, "pay", 0, 1);
    }

    private static void payOfWhatIsLeft() {
        Run x = rich("25: there is less left").is(STATE, "pay", 1, 50).is(STATE, "pay", 1, MOST);
        x.is(1, "pay", 1, 48).is(STATE, "pay", 1, 2).is(0, "pay", 1, 1).is(STATE, "pay", 1, 1);
        x.is(STATE, "pay", 1, MOST).is(BEYOND, "pay", 1, 0).is(BEYOND, "pay", 2, 1).is(5, "found", 3);
        rich("25: all at once").is(0, "pay", 0, 500).is(STATE, "pay", 0, 1).is(48, "pay", 1, 1);
    }

    private static void owedIsOfABillOnADay() {
        Run x = rich("26: there is no such BILL, or day isn't 0 .. 2000");
        x.range(0, -1, 500 + 110 + 49, 1, 49, "owed", 9, 100);
        x.range(1, 0, 0, 2000, 500 + 283 * 10, "owed", 0, 9999);
        x.range(1, 0, 0, 2000, 500 + 283 * 10 + 49, "owed", -1, 9999);
        x.is(BEYOND, "owed", -2, 2001).is(BEYOND, "owed", 2, 0);
    }

    private static void owedAheadOfItsOwnDay() {
        Run x = rich("26: 0 ahead of its own DAY");
        x.is(0, "owed", 0, 0).is(0, "owed", 0, 9).is(500, "owed", 0, 10).is(0, "owed", 1, 99);
        x.is(49, "owed", 1, 100).is(0, "owed", -1, 9).is(500, "owed", -1, 10);
    }

    private static void owedByWholeWeeks() {
        Run x = rich("26: each whole week that DAY is behind the due one");
        x.is(500, "owed", 0, 16).is(500, "owed", 0, 17).is(500, "owed", 0, 18).is(500, "owed", 0, 23);
        x.is(510, "owed", 0, 24).is(510, "owed", 0, 30).is(520, "owed", 0, 31);
        x.with("credit", 60).is(510, "owed", 0, 24).with("credit", 0).is(510, "owed", 0, 24);
        Run y = new Run("26: CREDIT 0 and 60, as it is then").with("credit", 0).with("bill", 100, 1000);
        y.with("credit", 60).with("bill", 100, 1000).is(0, "owed", 0, 999).is(100, "owed", 0, 1006);
        y.is(102, "owed", 0, 1007).is(100, "owed", 1, 1066).is(102, "owed", 1, 1067);
        y.is(100 + 142 * 2, "owed", 0, 2000).is(100 + 134 * 2, "owed", 1, 2000);
    }

    private static void owedIsCutEach() {
        int[][] coins = {{1, 0}, {49, 0}, {50, 1}, {99, 1}, {100, 2}, {149, 2}, {10000, 200}};
        for (int[] row : coins) {
            Run x = new Run("26: a fiftieth, cut each, of " + row[0]).with("bill", row[0], 0);
            x.is(row[0], "owed", 0, 20).is(row[0] + row[1], "owed", 0, 21);
            x.is(row[0] + 2 * row[1], "owed", 0, 28).is(row[0] + 283 * row[1], "owed", 0, 2000);
        }
        Run y = new Run("26: of what is left").with("bill", 100, 0).is(102, "owed", 0, 21);
        y.with("pay", 0, 50).is(51, "owed", 0, 21).with("pay", 0, 1).is(49, "owed", 0, 21);
        y.with("pay", 0, 49).is(0, "owed", 0, 21).is(0, "owed", 0, 2000);
    }

    private static void owedOfAllTheMost() {
        Run x = new Run("26: of all, the most").with("credit", 0);
        for (int b = 0; b < 12; b++) {
            x.with("bill", 10000, 0);
        }
        x.is(120000, "owed", -1, 6).is(122400, "owed", -1, 7).is(12 * 67000, "owed", -1, 2000);
    }

    // ---- Promises 27 to 30: what is told

    private static void twelveNumbersWait() {
        Run x = rich("27: 12 wait").is(3, "tell", LEAST).is(4, "tell", MOST).is(5, "tell", -1);
        for (int i = 6; i <= 12; i++) {
            x.is(i, "tell", 0);
        }
        x.is(FULL, "tell", 0).is(FULL, "tell", LEAST).is(12, "count", 4).is(2, "found", 4);
        x.is(STATE, "check", 0).is(0, "count", 4).is(1, "tell", 3).is(50, "check", 0);
    }

    private static void checkOfTwelve() {
        Run x = town("28: a ROUND of all HOURS", 1, 2).with("stock", 0, 2000);
        for (int h = 0; h < 12; h++) {
            x.with("wish", 0, h, 10).with("tell", h);
        }
        x.is(FULL, "tell", 5).is(10 + 11 * 5, "check", 0).is(0, "count", 4).is(2000, "as", 0, 0);
        for (int h = 0; h < 12; h++) {
            x.with("tell", h == 11 ? 0 : h);
        }
        x.is(STATE, "check", 0).is(0, "count", 4);
    }

    private static void checkAsksNoneThenBeyondThenState() {
        Run x = rich("28: NONE, then BEYOND, then STATE").with("check", 0).is(NONE, "check", 3);
        x.is(NONE, "check", -1).is(NONE, "check", LEAST).is(NONE, "check", MOST).is(0, "found", 1);
        int[] noVans = {-1, 3, LEAST, MOST};
        for (int v : noVans) {
            tells(x, 0, 12).is(BEYOND, "check", v).is(0, "count", 4).is(NONE, "check", 0);
        }
        x.is(4, "found", 1).is(0, "found", 3);
        tells(x, 3).is(50, "check", 0);
        tells(x, 3).is(50, "check", 2);
        tells(x, 12).is(STATE, "check", 2).is(0, "count", 4).is(NONE, "check", 2);
    }

    private static void checkOfNoStreetAndHour() {
        Run x = rich("28: one is no STREET and HOUR").with("check", 0);
        for (int at : NO_PLACES) {
            tells(x, at).is(STATE, "check", 0).is(0, "count", 4);
        }
        Run y = rich("28: one is no STREET and HOUR, first, between, or last").with("check", 0);
        tells(y, 0, 1, 2).is(0, "check", 0);
        tells(y, -1, 1, 2).is(STATE, "check", 0);
        tells(y, 0, -1, 2).is(STATE, "check", 0);
        tells(y, 0, 1, -1).is(STATE, "check", 0);
        tells(y, 10, 11).is(0, "check", 0);
        tells(y, 10, 11, 12).is(STATE, "check", 0);
        tells(y, 411).is(0, "check", 0);
        tells(y, 511).is(STATE, "check", 0);
    }

    private static void checkWhereItMayNotStand() {
        Run x = rich("28: it may not stand there").with("check", 0);
        tells(x, 104).is(0, "check", 0);
        tells(x, 104, 105).is(STATE, "check", 0);
        tells(x, 105).is(STATE, "check", 0);
        tells(x, 107, 108).is(STATE, "check", 0);
        tells(x, 108, 109).is(0, "check", 0);
        tells(x, 300).is(STATE, "check", 1);
        tells(x, 200, 301).is(STATE, "check", 1);
        tells(x, 200, 201).is(0, "check", 1);
    }

    private static void countIsOfSeven() {
        Run x = rich("29: another what").range(0, 0, 5, 6, 3, "count", 99);
        x.is(3, "count", 1).is(3, "count", 2).is(2, "count", 3).is(2, "count", 4).is(2700, "count", 5);
        Run y = town("29: the most STOCK of all", 0, 0, 1, 2, 0);
        y.with("stock", 0, 2000).with("stock", 1, 2000).with("stock", 2, 2000).with("stock", 3, 2000);
        y.is(8000, "count", 5);
    }

    private static void foundIsOfFive() {
        Run x = rich("30: another k (counted, too)").range(0, 1, 4, 5, 0, "found", 99);
        x.is(8, "found", 1).is(BEYOND, "found", 0).is(BEYOND, "found", 6).is(10, "found", 1);
        x.is(10, "found", 1);
        x.is(0, "found", 2).is(0, "found", 3).is(0, "found", 4).is(0, "found", 5);
    }

    private static void foundCountsEachFinding() {
        Run x = rich("30: how many acts have answered a finding");
        x.is(NONE, "holder", 2).is(1, "found", 2).is(NONE, "stop", 0, 3, 1, 1).is(2, "found", 2);
        x.is(NONE, "balance", 0, 1, 3, 99).is(3, "found", 2).is(50, "plan", 0, 3, 1);
        x.is(STATE, "plan", 0, 105, 1).is(1, "found", 3).is(STATE, "pay", 1, 50).is(2, "found", 3);
        x.is(KIND, "as", 0, 1).is(1, "found", 5).is(KIND, "as", 0, 1).is(2, "found", 5);
        x.is(5, "street", 0).is(FULL, "street", 0).is(1, "found", 4).is(0, "found", 1);
        x.is(3, "found", 2).is(2, "found", 3).is(1, "found", 4).is(2, "found", 5);
    }

    private static void terms() {
        findingsHaveTheirNumbers();
        aFindingIsToldOnceForSeveralReasons();
        aNewObjectHasNothing();
        streetsWithoutVans();
        vansWithoutStreets();
        numbersBehindTheLastOfAll();
        theLastOfItsCalls();
    }

    private static void streets() {
        schoolIsOneOrNot();
        streetsAreAtMostSix();
        wayIsWithinItsRange();
        wayIsBetweenStreetsThatAre();
        wayIsNotWithinOne();
        wayIsZeroAtFirstAndTheSameBothWays();
        wishIsWithinItsRange();
        wishIsForAStreetAndAnHour();
        wishIsZeroAtFirst();
        heatIsWithinItsRange();
        worthIsCut();
        worthIsOfAStreetAtAnHour();
    }

    private static void vansAndLaw() {
        kindsAreThree();
        vansAreAtMostFour();
        asIsOfItsKindOrOneUnderIt();
        asIsOfAVanAndAKind();
        stockIsWithinItsRange();
        licenceIsWithinItsRange();
        licenceIsBits();
        lawIsWithinItsRanges();
        lawBarsFromTo();
        lawBarsNoneAtFirst();
        chimesAboveSeconds();
        mayIsOfAVanAStreetAndAnHour();
    }

    private static void rounds() {
        sellsTheLeastOfStockAndWorth();
        aBikeSellsThirtyAtMost();
        aTenthMelts();
        ofABikeAFifthMelts();
        ofACartNothingMelts();
        whatMeltedIsNotSold();
        halfBehindOneOrTwoHours();
        halfInAPlan();
        theNextStandIsWhenItComesThere();
        planIsOfAVanAPlaceAndHours();
        stopIsOfAVanAPlaceAndHours();
        leftIsOfAVanAPlaceAndHours();
        planIsNotWhereItMayNotStand();
        planAsksBeyondAheadOfState();
        stopHasNoneSuch();
        planIsOfThoseHours();
        planGoesFarInThoseHours();
        planHasNoneBehindHourEleven();
        planPassesWhereItMayNotStand();
        ofSeveralPlansTheFirst();
        planOfSixStreetsAndSixHours();
    }

    private static void stands() {
        standIsOfAVanAPlaceAndAChime();
        chimeIsWithinItsRange();
        hoursOfOneVanRise();
        aRefusedStandIsNotTheLatest();
        aStandMayBeWrong();
        standsAreAtMostTwentyFour();
        standAsksBeyondThenStateThenFull();
        wrongIsOfAStandThatWasTold();
        wrongIsTheFirstOfFive();
        wrongByTheLawAtItsHours();
        wrongIfItCouldNotBeThereSoSoon();
        soonIsBehindTheStandToldAheadOfIt();
        wrongIfAnotherIsThere();
        clearEmptyAndFull();
        holderOfNone();
        holderOfSeveral();
    }

    private static void twoVans() {
        getsIsOfTwoVansTwoStreetsAndAnHour();
        getsIsOfTwo();
        getsWhereOneMayNotStand();
        sharesAreCut();
        balanceIsOfTwoVansAndAnHour();
        balancesInTheirOrder();
        balanceIfNeitherWouldGetMore();
        balanceWhereItMayStand();
        togetherIsOfTwoVansAndAnHour();
        togetherWhereOneMayStandNowhere();
        togetherTheFirstSuch();
    }

    private static void billsAndTold() {
        creditIsWithinItsRange();
        billIsWithinItsRanges();
        billsAreAtMostTwelve();
        payIsOfABillAndCoins();
        payOfWhatIsLeft();
        owedIsOfABillOnADay();
        owedAheadOfItsOwnDay();
        owedByWholeWeeks();
        owedIsCutEach();
        owedOfAllTheMost();
        twelveNumbersWait();
        checkOfTwelve();
        checkAsksNoneThenBeyondThenState();
        checkOfNoStreetAndHour();
        checkWhereItMayNotStand();
        countIsOfSeven();
        foundIsOfFive();
        foundCountsEachFinding();
    }

    public static void main(String[] args) {
        terms();
        streets();
        vansAndLaw();
        rounds();
        stands();
        twoVans();
        billsAndTold();
        System.out.println(wrong == 0 ? "all edges hold, " + asked + " answers"
            : wrong + " answers are not as due");
        if (wrong != 0) {
            System.exit(1);
        }
    }
}

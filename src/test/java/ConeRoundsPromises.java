/** One method a promise, with answers worked out by hand from the document. */
public final class ConeRoundsPromises {
    private static final int BEYOND = -1000001;
    private static final int NONE = -1000002;
    private static final int STATE = -1000003;
    private static final int FULL = -1000004;
    private static final int KIND = -1000005;
    private static final int FAR = Integer.MAX_VALUE;
    private static final int DEEP = Integer.MIN_VALUE;
    private static int promise = 0;
    private static int wrong = 0;

    private static void due(String call, int got, int want) {
        if (got != want) {
            wrong++;
            System.out.println("promise " + promise + ": " + call + " answered " + got
                + ", due is " + want);
        }
    }

    private static ConeRounds town(int streets, int... kinds) {
        ConeRounds x = new ConeRounds();
        for (int i = 0; i < streets; i++) {
            x.street(0);
        }
        for (int kind : kinds) {
            x.van(kind);
        }
        return x;
    }

    private static void wishes(ConeRounds x, int street, int... byHour) {
        for (int h = 0; h < byHour.length; h++) {
            x.wish(street, h, byHour[h]);
        }
    }

    private static int told(ConeRounds x, int van, int... row) {
        for (int at : row) {
            x.tell(at);
        }
        return x.check(van);
    }

    private static void newObject() {
        ConeRounds x = new ConeRounds();
        for (int what = 0; what <= 5; what++) {
            due("count(" + what + ")", x.count(what), 0);
        }
        due("count(6)", x.count(6), 2);
        for (int k = 1; k <= 5; k++) {
            due("found(" + k + ")", x.found(k), 0);
        }
        due("owed(-1, 0)", x.owed(-1, 0), 0);
        due("clear()", x.clear(), 0);
        due("worth(0, 0)", x.worth(0, 0), BEYOND);
        due("as(0, 0)", x.as(0, 0), BEYOND);
        due("owed(0, 0)", x.owed(0, 0), BEYOND);
        due("wrong(0)", x.wrong(0), BEYOND);
        due("check(0)", x.check(0), NONE);
        ConeRounds y = new ConeRounds();
        y.street(0);
        due("count(0) of another object", new ConeRounds().count(0), 0);
    }

    private static void street() {
        ConeRounds x = new ConeRounds();
        due("street(-1)", x.street(-1), BEYOND);
        due("street(2)", x.street(2), BEYOND);
        for (int i = 0; i < 6; i++) {
            due("street", x.street(i % 2), i);
        }
        due("a seventh street", x.street(0), FULL);
        due("a seventh street, of no sort", x.street(2), BEYOND);
        due("count(0)", x.count(0), 6);
        x.van(0);
        x.law(0, 11, 12);
        due("may(0, 0, 0)", x.may(0, 0, 0), 1);
        due("may(0, 1, 0)", x.may(0, 1, 0), 0);
        due("may(0, 5, 0)", x.may(0, 5, 0), 0);
    }

    private static void way() {
        ConeRounds x = town(3);
        due("way(0, 1, 3)", x.way(0, 1, 3), 0);
        due("way(1, 0, 2)", x.way(1, 0, 2), 3);
        due("way(0, 1, 0)", x.way(0, 1, 0), 2);
        due("way(1, 2, 1)", x.way(1, 2, 1), 0);
        due("way(0, 2, 1)", x.way(0, 2, 1), 0);
        due("way(1, 1, 0)", x.way(1, 1, 0), BEYOND);
        due("way(0, 3, 0)", x.way(0, 3, 0), BEYOND);
        due("way(3, 0, 0)", x.way(3, 0, 0), BEYOND);
        due("way(-1, 0, 0)", x.way(-1, 0, 0), BEYOND);
        due("way(0, -1, 0)", x.way(0, -1, 0), BEYOND);
        due("way(1, 2, 4)", x.way(1, 2, 4), BEYOND);
        due("way(1, 2, -1)", x.way(1, 2, -1), BEYOND);
        due("way(2, 1, 0)", x.way(2, 1, 0), 1);
        due("way(far, deep, 0)", x.way(FAR, DEEP, 0), BEYOND);
    }

    private static void wish() {
        ConeRounds x = town(2);
        due("wish(1, 11, 200)", x.wish(1, 11, 200), 0);
        due("wish(1, 11, 0)", x.wish(1, 11, 0), 200);
        due("wish(1, 11, 7)", x.wish(1, 11, 7), 0);
        due("wish(0, 11, 1)", x.wish(0, 11, 1), 0);
        due("wish(1, 10, 1)", x.wish(1, 10, 1), 0);
        due("wish(1, 11, 201)", x.wish(1, 11, 201), BEYOND);
        due("wish(1, 11, -1)", x.wish(1, 11, -1), BEYOND);
        due("wish(1, 12, 1)", x.wish(1, 12, 1), BEYOND);
        due("wish(1, -1, 1)", x.wish(1, -1, 1), BEYOND);
        due("wish(2, 0, 1)", x.wish(2, 0, 1), BEYOND);
        due("wish(-1, 0, 1)", x.wish(-1, 0, 1), BEYOND);
        due("wish(1, 11, 0) again", x.wish(1, 11, 0), 7);
    }

    private static void heat() {
        ConeRounds x = new ConeRounds();
        due("heat(0)", x.heat(0), 2);
        due("heat(4)", x.heat(4), 0);
        due("heat(5)", x.heat(5), BEYOND);
        due("heat(-1)", x.heat(-1), BEYOND);
        due("heat(1)", x.heat(1), 4);
        due("count(6)", x.count(6), 1);
    }

    private static void van() {
        ConeRounds x = new ConeRounds();
        due("van(-1)", x.van(-1), BEYOND);
        due("van(3)", x.van(3), BEYOND);
        due("van(2)", x.van(2), 0);
        due("van(0)", x.van(0), 1);
        due("van(1)", x.van(1), 2);
        due("van(1)", x.van(1), 3);
        due("van(0), a fifth", x.van(0), FULL);
        due("van(3), a fifth", x.van(3), BEYOND);
        due("count(1)", x.count(1), 4);
    }

    private static void as() {
        ConeRounds x = town(0, 0, 1, 2);
        for (int v = 0; v < 3; v++) {
            x.stock(v, 10 + v);
            for (int kind = 0; kind < 3; kind++) {
                due("as(" + v + ", " + kind + ")", x.as(v, kind),
                    kind == 0 || kind == v ? 10 + v : KIND);
            }
        }
        due("as(0, 3)", x.as(0, 3), BEYOND);
        due("as(0, -1)", x.as(0, -1), BEYOND);
        due("as(3, 0)", x.as(3, 0), BEYOND);
        due("as(-1, 0)", x.as(-1, 0), BEYOND);
        due("found(5)", x.found(5), 4);
    }

    private static void stock() {
        ConeRounds x = town(0, 0, 0);
        due("stock(0, 2000)", x.stock(0, 2000), 0);
        due("stock(1, 5)", x.stock(1, 5), 0);
        due("stock(0, 2001)", x.stock(0, 2001), BEYOND);
        due("stock(0, -1)", x.stock(0, -1), BEYOND);
        due("stock(2, 0)", x.stock(2, 0), BEYOND);
        due("stock(-1, 0)", x.stock(-1, 0), BEYOND);
        due("stock(0, 0)", x.stock(0, 0), 2000);
        due("stock(1, 0)", x.stock(1, 0), 5);
    }

    private static void licence() {
        ConeRounds x = town(2, 0, 0);
        due("licence(0, 2)", x.licence(0, 2), 63);
        due("may(0, 0, 0)", x.may(0, 0, 0), 0);
        due("may(0, 1, 0)", x.may(0, 1, 0), 1);
        due("may(1, 0, 0)", x.may(1, 0, 0), 1);
        due("licence(0, 64)", x.licence(0, 64), BEYOND);
        due("licence(0, -1)", x.licence(0, -1), BEYOND);
        due("licence(2, 0)", x.licence(2, 0), BEYOND);
        due("licence(-1, 0)", x.licence(-1, 0), BEYOND);
        due("licence(0, 0)", x.licence(0, 0), 2);
        due("licence(0, 32)", x.licence(0, 32), 0);
        due("licence(0, 63)", x.licence(0, 63), 32);
        for (int i = 2; i < 6; i++) {
            x.street(0);
        }
        x.licence(0, 32);
        due("may(0, 5, 0)", x.may(0, 5, 0), 1);
        due("may(0, 4, 0)", x.may(0, 4, 0), 0);
    }

    private static void law() {
        ConeRounds x = new ConeRounds();
        x.street(1);
        x.street(0);
        x.van(0);
        due("may(0, 0, 0) at first", x.may(0, 0, 0), 1);
        due("may(0, 0, 1) at first", x.may(0, 0, 1), 1);
        due("law(3, 5, 0)", x.law(3, 5, 0), 1);
        for (int h = 0; h < 12; h++) {
            due("may(0, 0, " + h + ")", x.may(0, 0, h), h >= 3 && h <= 5 ? 0 : 1);
            due("may(0, 1, " + h + ")", x.may(0, 1, h), 1);
        }
        due("law(12, 0, 0)", x.law(12, 0, 0), BEYOND);
        due("law(-1, 0, 0)", x.law(-1, 0, 0), BEYOND);
        due("law(0, 12, 0)", x.law(0, 12, 0), BEYOND);
        due("law(0, -1, 0)", x.law(0, -1, 0), BEYOND);
        due("law(0, 0, 61)", x.law(0, 0, 61), BEYOND);
        due("law(0, 0, -1)", x.law(0, 0, -1), BEYOND);
        due("may(0, 0, 0), law refused", x.may(0, 0, 0), 1);
        due("may(0, 0, 4), law refused", x.may(0, 0, 4), 0);
        due("law(5, 3, 60)", x.law(5, 3, 60), 1);
        for (int h = 0; h < 12; h++) {
            due("may, law never", x.may(0, 0, h), 1);
        }
        due("law(11, 11, 60)", x.law(11, 11, 60), 1);
        due("may(0, 0, 11)", x.may(0, 0, 11), 0);
        due("may(0, 0, 10)", x.may(0, 0, 10), 1);
    }

    private static void may() {
        ConeRounds x = town(1, 0);
        due("may(0, 0, 11)", x.may(0, 0, 11), 1);
        due("may(1, 0, 0)", x.may(1, 0, 0), BEYOND);
        due("may(-1, 0, 0)", x.may(-1, 0, 0), BEYOND);
        due("may(0, 1, 0)", x.may(0, 1, 0), BEYOND);
        due("may(0, -1, 0)", x.may(0, -1, 0), BEYOND);
        due("may(0, 0, 12)", x.may(0, 0, 12), BEYOND);
        due("may(0, 0, -1)", x.may(0, 0, -1), BEYOND);
    }

    private static void worth() {
        ConeRounds x = town(2);
        x.wish(1, 4, 99);
        int[] byHeat = {49, 74, 99, 123, 148};
        for (int heat = 0; heat <= 4; heat++) {
            x.heat(heat);
            due("worth(1, 4) at heat " + heat, x.worth(1, 4), byHeat[heat]);
            due("worth(1, 3) at heat " + heat, x.worth(1, 3), 0);
            due("worth(0, 4) at heat " + heat, x.worth(0, 4), 0);
        }
        due("worth(2, 0)", x.worth(2, 0), BEYOND);
        due("worth(-1, 0)", x.worth(-1, 0), BEYOND);
        due("worth(0, 12)", x.worth(0, 12), BEYOND);
        due("worth(0, -1)", x.worth(0, -1), BEYOND);
    }

    private static void plan() {
        ConeRounds x = town(1, 0, 1, 2);
        wishes(x, 0, 101, 101, 101, 101);
        x.stock(0, 1000);
        x.stock(1, 1000);
        x.stock(2, 1000);
        due("plan(0, 0, 1)", x.plan(0, 0, 1), 101);
        due("plan(0, 0, 4): halves cut", x.plan(0, 0, 4), 251);
        due("plan(1, 0, 4): a bike sells 30", x.plan(1, 0, 4), 120);
        due("plan(2, 0, 4)", x.plan(2, 0, 4), 251);
        due("plan(0, 0, 7)", x.plan(0, 0, 7), BEYOND);
        due("plan(0, 0, 0)", x.plan(0, 0, 0), BEYOND);
        due("plan(3, 0, 1)", x.plan(3, 0, 1), BEYOND);
        due("plan(-1, 0, 1)", x.plan(-1, 0, 1), BEYOND);
        due("plan(0, 100, 1)", x.plan(0, 100, 1), BEYOND);
        due("plan(0, 12, 1)", x.plan(0, 12, 1), BEYOND);
        due("plan(0, -1, 1)", x.plan(0, -1, 1), BEYOND);
        due("plan(0, -100, 1)", x.plan(0, -100, 1), BEYOND);
        due("plan(far, far, far)", x.plan(FAR, FAR, FAR), BEYOND);
        due("plan(0, deep, 1)", x.plan(0, DEEP, 1), BEYOND);
        x.licence(0, 62);
        due("plan(0, 0, 1), no licence", x.plan(0, 0, 1), STATE);
        due("plan(0, 0, 7), no licence", x.plan(0, 0, 7), BEYOND);
        due("plan changes no stock", x.stock(1, 0), 1000);
        planWalks();
        planEnds();
    }

    private static void planWalks() {
        ConeRounds x = town(2, 0, 2);
        x.stock(0, 500);
        x.stock(1, 500);
        wishes(x, 0, 100, 0, 0, 80);
        wishes(x, 1, 0, 90, 90, 0);
        due("plan(0, 0, 4), 0 1 1 0", x.plan(0, 0, 4), 100 + 90 + 45 + 80);
        due("a cart goes an hour longer", x.plan(1, 0, 3), 190);
        due("stop(1, 0, 3, 1)", x.stop(1, 0, 3, 1), 102);
        x.way(0, 1, 1);
        due("a way of one hour", x.plan(0, 0, 4), 190);
        due("stop(0, 0, 4, 1)", x.stop(0, 0, 4, 1), 102);
        due("a cart with a way of one hour stays, for a half", x.plan(1, 0, 4), 100 + 40);
        x.way(0, 1, 0);
        wishes(x, 0, 100, 0, 100, 0);
        due("two hours ahead is a half too", told(x, 0, 0, 101, 2), 100 + 90 + 50);
        due("three hours ahead is none", told(x, 0, 0, 1, 102), 100 + 90);
        wishes(x, 0, 100, 0, 0, 100);
        due("three hours ahead is whole", told(x, 0, 0, 101, 102, 3), 100 + 90 + 45 + 100);
    }

    private static void planEnds() {
        ConeRounds x = town(1, 0);
        x.stock(0, 100);
        x.wish(0, 11, 20);
        x.wish(0, 10, 20);
        due("plan(0, 11, 6)", x.plan(0, 11, 6), 20);
        due("plan(0, 10, 6)", x.plan(0, 10, 6), 30);
        due("plan(0, 5, 6): hour 11 is the seventh", x.plan(0, 5, 6), 10);
        due("plan(0, 6, 6)", x.plan(0, 6, 6), 10 + 10);
        ConeRounds y = new ConeRounds();
        y.street(0);
        y.street(1);
        y.van(0);
        y.stock(0, 100);
        wishes(y, 1, 0, 50, 50);
        y.law(1, 1, 12);
        due("a barred hour is passed by", y.plan(0, 0, 3), 50);
        due("stop(0, 0, 3, 1)", y.stop(0, 0, 3, 1), 1);
        y.licence(0, 1);
        due("no licence for the other street", y.plan(0, 0, 3), 0);
        due("plan(0, 101, 1), barred", y.plan(0, 101, 1), STATE);
    }

    private static void stop() {
        ConeRounds x = town(3, 0);
        x.stock(0, 1000);
        wishes(x, 0, 10, 0, 0);
        wishes(x, 1, 0, 50, 0);
        wishes(x, 2, 0, 50, 0);
        due("stop 0", x.stop(0, 0, 3, 0), 0);
        due("stop 1: the first of equal ones", x.stop(0, 0, 3, 1), 101);
        due("stop 2: one that ends comes first", x.stop(0, 0, 3, 2), NONE);
        due("stop -1", x.stop(0, 0, 3, -1), NONE);
        due("stop deep", x.stop(0, 0, 3, DEEP), NONE);
        due("stop far", x.stop(0, 0, 3, FAR), NONE);
        x.wish(2, 1, 51);
        due("stop 1: the one that sells more", x.stop(0, 0, 3, 1), 201);
        wishes(x, 1, 0, 31, 0);
        wishes(x, 2, 0, 0, 31);
        due("0 1 2 sells more than 0 0 2", x.stop(0, 0, 3, 1), 101);
        x.wish(1, 1, 0);
        due("0 0 2 ahead of 0 1 2, which sells as much", x.stop(0, 0, 3, 1), 1);
        due("0 0 2", x.stop(0, 0, 3, 2), 202);
        due("six stops at most", x.stop(0, 0, 6, 6), NONE);
        due("stop 0 of another beginning", x.stop(0, 207, 6, 0), 207);
        due("stop(1, 0, 1, 0)", x.stop(1, 0, 1, 0), BEYOND);
        due("stop(0, 300, 1, 0)", x.stop(0, 300, 1, 0), BEYOND);
        due("stop(0, 0, 7, -1)", x.stop(0, 0, 7, -1), BEYOND);
        x.licence(0, 0);
        due("stop(0, 0, 1, -1), no licence", x.stop(0, 0, 1, -1), STATE);
        ConeRounds y = town(1, 2);
        y.stock(0, 2000);
        wishes(y, 0, 200, 200, 200, 200, 200, 200, 200);
        for (int i = 0; i < 6; i++) {
            due("six stops", y.stop(0, 0, 6, i), i);
        }
        due("a seventh stop", y.stop(0, 0, 6, 6), NONE);
    }

    private static void left() {
        ConeRounds x = town(1, 0, 1, 2);
        x.wish(0, 0, 100);
        x.stock(0, 209);
        x.stock(1, 209);
        x.stock(2, 209);
        due("left of a van", x.left(0, 0, 1), 99);
        due("left of a bike", x.left(1, 0, 1), 144);
        due("left of a cart", x.left(2, 0, 1), 109);
        due("left behind one stand, for the plan ends", x.left(0, 0, 6), 99);
        x.wish(0, 1, 20);
        due("left behind two stands", x.left(0, 0, 6), 81);
        x.stock(0, 40);
        due("left: all sold", x.left(0, 0, 1), 0);
        due("plan: all sold", x.plan(0, 0, 1), 40);
        due("left(3, 0, 1)", x.left(3, 0, 1), BEYOND);
        due("left(0, 112, 1)", x.left(0, 112, 1), BEYOND);
        due("left(0, 0, 0)", x.left(0, 0, 0), BEYOND);
        x.licence(0, 0);
        due("left(0, 0, 1), no licence", x.left(0, 0, 1), STATE);
        due("left changes no stock", x.stock(0, 0), 40);
    }

    private static void stand() {
        ConeRounds x = town(2, 0, 1, 2, 0);
        due("stand(0, 103, 99)", x.stand(0, 103, 99), 0);
        due("stand(0, 3, 0): same hour", x.stand(0, 3, 0), STATE);
        due("stand(0, 2, 0): earlier", x.stand(0, 2, 0), STATE);
        due("stand(1, 2, 0): another van", x.stand(1, 2, 0), 1);
        due("stand(0, 4, 0)", x.stand(0, 4, 0), 2);
        due("stand(4, 0, 0)", x.stand(4, 0, 0), BEYOND);
        due("stand(-1, 0, 0)", x.stand(-1, 0, 0), BEYOND);
        due("stand(0, 200, 0)", x.stand(0, 200, 0), BEYOND);
        due("stand(0, 12, 0)", x.stand(0, 12, 0), BEYOND);
        due("stand(0, -1, 0)", x.stand(0, -1, 0), BEYOND);
        due("stand(0, 3, 100)", x.stand(0, 3, 100), BEYOND);
        due("stand(0, 5, -1)", x.stand(0, 5, -1), BEYOND);
        due("count(2)", x.count(2), 3);
        x.licence(2, 0);
        due("stand(2, 0, 0), no licence", x.stand(2, 0, 0), 3);
        x.clear();
        due("stand(0, 0, 0) on a new day", x.stand(0, 0, 0), 0);
        x.clear();
        for (int i = 0; i < 24; i++) {
            due("stand " + i, x.stand(i / 12, i % 12, 0), i);
        }
        due("stand(2, 0, 0), full", x.stand(2, 0, 0), FULL);
        due("stand(1, 11, 0), full and no later", x.stand(1, 11, 0), STATE);
        due("stand(2, 0, 100), full", x.stand(2, 0, 100), BEYOND);
        due("count(2)", x.count(2), 24);
    }

    private static void wrongs() {
        ConeRounds x = new ConeRounds();
        x.street(1);
        x.street(0);
        x.van(0);
        x.van(2);
        x.way(0, 1, 2);
        x.stand(1, 2, 0);
        x.stand(0, 100, 13);
        x.stand(0, 2, 13);
        due("wrong(2): the chime", x.wrong(2), 3);
        x.law(2, 2, 12);
        due("wrong(2): the law", x.wrong(2), 2);
        x.licence(0, 2);
        due("wrong(2): the licence", x.wrong(2), 1);
        x.licence(0, 63);
        x.law(3, 2, 13);
        due("wrong(2): too soon", x.wrong(2), 4);
        x.way(0, 1, 1);
        due("wrong(2): another one's", x.wrong(2), 5);
        due("wrong(0): a lesser number", x.wrong(0), 0);
        due("wrong(1)", x.wrong(1), 0);
        x.law(0, 0, 12);
        due("wrong(1): chime, no school", x.wrong(1), 3);
        due("wrong(3)", x.wrong(3), BEYOND);
        due("wrong(-1)", x.wrong(-1), BEYOND);
        x.clear();
        due("wrong(0) when clear", x.wrong(0), BEYOND);
        x.way(0, 1, 0);
        x.stand(1, 0, 12);
        x.stand(1, 101, 12);
        x.stand(0, 1, 12);
        x.stand(0, 102, 12);
        x.stand(1, 103, 12);
        x.stand(1, 5, 12);
        due("wrong(1): a cart needs two hours", x.wrong(1), 4);
        due("wrong(3): a van needs one", x.wrong(3), 0);
        due("wrong(4): later than need be", x.wrong(4), 0);
        due("wrong(5): a cart in two hours", x.wrong(5), 0);
        x.way(0, 1, 1);
        due("wrong(5): the way has grown", x.wrong(5), 4);
    }

    private static void clear() {
        ConeRounds x = town(1, 0, 0);
        x.stand(0, 0, 13);
        x.stand(0, 1, 12);
        x.stand(1, 1, 12);
        x.stand(1, 2, 99);
        due("clear()", x.clear(), 3);
        due("count(2)", x.count(2), 0);
        due("clear() again", x.clear(), 0);
        due("holder(0)", x.holder(0), NONE);
        x.stand(1, 0, 0);
        due("a new day has no holder of old", x.holder(0), 1);
        due("clear(), none wrong", x.clear(), 0);
    }

    private static void holder() {
        ConeRounds x = town(2, 0, 0, 0);
        due("holder(0)", x.holder(0), NONE);
        x.stand(2, 0, 0);
        due("holder(0)", x.holder(0), 2);
        x.stand(1, 0, 0);
        due("holder(0): the lesser of two", x.holder(0), 1);
        x.stand(2, 1, 0);
        due("holder(0): the most", x.holder(0), 2);
        x.stand(0, 100, 0);
        due("holder(1)", x.holder(1), 0);
        due("holder(0)", x.holder(0), 2);
        due("holder(2)", x.holder(2), BEYOND);
        due("holder(-1)", x.holder(-1), BEYOND);
    }

    private static void gets() {
        ConeRounds x = town(2, 0, 1, 0);
        x.wish(0, 3, 101);
        x.wish(1, 3, 50);
        due("alone", x.gets(0, 1, 1, 3), 101);
        due("the other alone", x.gets(1, 0, 10, 3), 50);
        due("a half each", x.gets(0, 1, 0, 3), 50);
        x.stand(2, 0, 0);
        due("another one holds it", x.gets(0, 1, 0, 3), 50);
        x.stand(1, 0, 0);
        x.stand(1, 1, 0);
        due("the holder's two thirds", x.gets(1, 0, 0, 3), 67);
        due("the other one's third", x.gets(0, 1, 0, 3), 33);
        due("alone, though another holds it", x.gets(0, 1, 1, 3), 101);
        due("gets(0, 0, 1, 3)", x.gets(0, 0, 1, 3), BEYOND);
        due("gets(3, 0, 1, 3)", x.gets(3, 0, 1, 3), BEYOND);
        due("gets(0, 3, 1, 3)", x.gets(0, 3, 1, 3), BEYOND);
        due("gets(-1, 0, 1, 3)", x.gets(-1, 0, 1, 3), BEYOND);
        due("gets(0, -1, 1, 3)", x.gets(0, -1, 1, 3), BEYOND);
        due("gets(0, 1, 2, 3)", x.gets(0, 1, 2, 3), BEYOND);
        due("gets(0, 1, 20, 3)", x.gets(0, 1, 20, 3), BEYOND);
        due("gets(0, 1, -1, 3)", x.gets(0, 1, -1, 3), BEYOND);
        due("gets(0, 1, -10, 3)", x.gets(0, 1, -10, 3), BEYOND);
        due("gets(0, 1, 1, 12)", x.gets(0, 1, 1, 12), BEYOND);
        due("gets(0, 1, 1, -1)", x.gets(0, 1, 1, -1), BEYOND);
        x.licence(1, 1);
        due("the other may not", x.gets(0, 1, 1, 3), STATE);
        due("it may not itself", x.gets(1, 0, 10, 3), STATE);
        due("both may", x.gets(0, 1, 10, 3), 50);
        due("gets(0, 1, 1, 12), may not", x.gets(0, 1, 1, 12), BEYOND);
    }

    private static void balance() {
        ConeRounds x = town(2, 0, 0);
        x.wish(0, 0, 100);
        x.wish(1, 0, 50);
        due("a half is as good as the other street: 0 0", x.balance(0, 1, 0, 0), 0);
        due("0 1", x.balance(0, 1, 0, 1), 1);
        due("1 0", x.balance(0, 1, 0, 2), 10);
        due("no more", x.balance(0, 1, 0, 3), NONE);
        x.wish(1, 0, 49);
        due("0 0 alone", x.balance(0, 1, 0, 0), 0);
        due("no other", x.balance(0, 1, 0, 1), NONE);
        x.stand(1, 0, 0);
        due("the holder stays, the other leaves", x.balance(0, 1, 0, 0), 10);
        due("the same, told the other way", x.balance(1, 0, 0, 0), 1);
        x.licence(0, 1);
        due("where it may stand alone", x.balance(0, 1, 0, 0), 0);
        x.licence(0, 0);
        due("it may stand nowhere", x.balance(0, 1, 0, 0), NONE);
        due("balance(1, 1, 0, 0)", x.balance(1, 1, 0, 0), BEYOND);
        due("balance(2, 1, 0, 0)", x.balance(2, 1, 0, 0), BEYOND);
        due("balance(-1, 1, 0, 0)", x.balance(-1, 1, 0, 0), BEYOND);
        due("balance(1, 2, 0, 0)", x.balance(1, 2, 0, 0), BEYOND);
        due("balance(1, -1, 0, 0)", x.balance(1, -1, 0, 0), BEYOND);
        due("balance(0, 1, 12, 0)", x.balance(0, 1, 12, 0), BEYOND);
        due("balance(0, 1, -1, 0)", x.balance(0, 1, -1, 0), BEYOND);
        due("balance(0, 1, 0, -1)", x.balance(0, 1, 0, -1), BEYOND);
        due("balance(0, 1, 0, far)", x.balance(0, 1, 0, FAR), NONE);
        due("no streets", town(0, 0, 0).balance(0, 1, 0, 0), NONE);
        ConeRounds y = town(2, 0, 0);
        due("all alike: the fourth", y.balance(0, 1, 11, 3), 11);
        due("all alike: no fifth", y.balance(0, 1, 11, 4), NONE);
        ConeRounds z = town(6, 0, 0);
        due("six streets: the last", z.balance(0, 1, 11, 35), 55);
        due("six streets: no more", z.balance(0, 1, 11, 36), NONE);
    }

    private static void together() {
        ConeRounds x = town(3, 0, 0);
        due("all alike: the first", x.together(0, 1, 5), 0);
        x.wish(1, 5, 100);
        due("the whole of one: 0 1 is the first such", x.together(0, 1, 5), 1);
        x.wish(2, 5, 80);
        due("the two best", x.together(0, 1, 5), 12);
        due("told the other way", x.together(1, 0, 5), 12);
        x.licence(0, 4);
        due("where it may", x.together(0, 1, 5), 21);
        due("where it may, told the other way", x.together(1, 0, 5), 12);
        x.licence(1, 4);
        due("both in one", x.together(0, 1, 5), 22);
        x.licence(1, 0);
        due("the other may nowhere", x.together(0, 1, 5), NONE);
        due("the first may nowhere", x.together(1, 0, 5), NONE);
        due("found(2)", x.found(2), 2);
        x.licence(1, 8);
        due("it may only where no street is", x.together(0, 1, 5), NONE);
        due("likewise, told the other way", x.together(1, 0, 5), NONE);
        due("together(0, 0, 5)", x.together(0, 0, 5), BEYOND);
        due("together(2, 0, 5)", x.together(2, 0, 5), BEYOND);
        due("together(0, 2, 5)", x.together(0, 2, 5), BEYOND);
        due("together(-1, 0, 5)", x.together(-1, 0, 5), BEYOND);
        due("together(0, 1, 12)", x.together(0, 1, 12), BEYOND);
        due("together(0, 1, -1)", x.together(0, 1, -1), BEYOND);
    }

    private static void credit() {
        ConeRounds x = new ConeRounds();
        due("credit(0)", x.credit(0), 14);
        x.bill(100, 10);
        due("credit(60)", x.credit(60), 0);
        x.bill(100, 10);
        due("credit(61)", x.credit(61), BEYOND);
        due("credit(-1)", x.credit(-1), BEYOND);
        due("credit(1)", x.credit(1), 60);
        due("owed(0, 16)", x.owed(0, 16), 100);
        due("owed(0, 17): due as it was then", x.owed(0, 17), 102);
        due("owed(1, 76)", x.owed(1, 76), 100);
        due("owed(1, 77)", x.owed(1, 77), 102);
    }

    private static void bill() {
        ConeRounds x = new ConeRounds();
        due("bill(0, 0)", x.bill(0, 0), BEYOND);
        due("bill(10001, 0)", x.bill(10001, 0), BEYOND);
        due("bill(1, -1)", x.bill(1, -1), BEYOND);
        due("bill(1, 1001)", x.bill(1, 1001), BEYOND);
        due("bill(10000, 1000)", x.bill(10000, 1000), 0);
        for (int i = 1; i < 12; i++) {
            due("bill(1, 0)", x.bill(1, 0), i);
        }
        due("a thirteenth", x.bill(1, 0), FULL);
        due("a thirteenth of nothing", x.bill(0, 0), BEYOND);
        due("count(3)", x.count(3), 12);
        due("owed(-1, 0)", x.owed(-1, 0), 11);
    }

    private static void pay() {
        ConeRounds x = new ConeRounds();
        x.bill(100, 0);
        x.bill(100, 0);
        due("pay(0, 0)", x.pay(0, 0), BEYOND);
        due("pay(0, -1)", x.pay(0, -1), BEYOND);
        due("pay(2, 1)", x.pay(2, 1), BEYOND);
        due("pay(-1, 1)", x.pay(-1, 1), BEYOND);
        due("pay(0, 101)", x.pay(0, 101), STATE);
        due("pay(0, far)", x.pay(0, FAR), STATE);
        due("pay(0, 99)", x.pay(0, 99), 1);
        due("pay(0, 2)", x.pay(0, 2), STATE);
        due("pay(0, 1)", x.pay(0, 1), 0);
        due("pay(0, 1) again", x.pay(0, 1), STATE);
        due("owed(1, 0)", x.owed(1, 0), 100);
    }

    private static void owed() {
        ConeRounds x = new ConeRounds();
        x.bill(149, 5);
        x.bill(49, 6);
        due("ahead of its day", x.owed(0, 4), 0);
        due("on its day", x.owed(0, 5), 149);
        due("on the due day", x.owed(0, 19), 149);
        due("six days behind", x.owed(0, 25), 149);
        due("a week behind", x.owed(0, 26), 151);
        due("two weeks behind", x.owed(0, 33), 153);
        due("cut each", x.owed(1, 2000), 49);
        due("of all on day 5", x.owed(-1, 5), 149);
        due("of all", x.owed(-1, 26), 200);
        due("day 2000", x.owed(0, 2000), 149 + 2 * 283);
        due("day 2001", x.owed(0, 2001), BEYOND);
        due("day -1", x.owed(-1, -1), BEYOND);
        due("owed(2, 0)", x.owed(2, 0), BEYOND);
        due("owed(-2, 0)", x.owed(-2, 0), BEYOND);
        x.pay(0, 50);
        due("of what is left", x.owed(0, 33), 101);
    }

    private static void tell() {
        ConeRounds x = town(1, 0);
        due("tell(deep)", x.tell(DEEP), 1);
        due("tell(far)", x.tell(FAR), 2);
        for (int i = 3; i <= 12; i++) {
            due("tell(0)", x.tell(0), i);
        }
        due("a thirteenth", x.tell(0), FULL);
        due("count(4)", x.count(4), 12);
        x.check(0);
        due("tell(0) when none wait", x.tell(0), 1);
    }

    private static void check() {
        ConeRounds x = new ConeRounds();
        x.street(0);
        x.street(1);
        x.van(0);
        x.van(2);
        x.stock(0, 100);
        x.stock(1, 100);
        wishes(x, 0, 50, 50, 50, 50);
        wishes(x, 1, 40, 40, 40, 40);
        due("check(9), none wait", x.check(9), NONE);
        due("one stand", told(x, 0, 0), 50);
        due("count(4)", x.count(4), 0);
        due("two stands", told(x, 0, 0, 101), 50 + 40);
        due("melting in between", told(x, 0, 0, 1, 102), 50 + 25 + 18);
        due("stock is as it was", x.as(0, 0), 100);
        due("same street, two hours later", told(x, 0, 0, 2), STATE);
        due("same hour", told(x, 0, 0, 100), STATE);
        due("backwards", told(x, 0, 1, 0), STATE);
        due("too late", told(x, 0, 0, 102), STATE);
        due("a cart, an hour more", told(x, 1, 0, 102), 90);
        due("a cart, too soon", told(x, 1, 0, 101), STATE);
        due("no street", told(x, 0, 0, 201), STATE);
        due("no hour", told(x, 0, 12), STATE);
        due("neither", told(x, 0, DEEP), STATE);
        due("far", told(x, 0, FAR), STATE);
        due("a refused row is gone", x.count(4), 0);
        due("no such van", told(x, 2, 0), BEYOND);
        due("gone, too", x.check(0), NONE);
        due("no such van", told(x, -1, 0), BEYOND);
        x.law(1, 1, 12);
        due("barred on the way", told(x, 0, 0, 101, 102), STATE);
        due("barred no more", told(x, 0, 0, 1, 102), 93);
        x.licence(0, 2);
        due("no licence at first", told(x, 0, 0), STATE);
        due("with a licence", told(x, 0, 100), 40);
        due("twelve hours", told(x, 1, 0, 1, 2, 3, 4, 5, 6, 7, 8, 9, 10, 11), 50 + 25 + 25);
    }

    private static void count() {
        ConeRounds x = town(2, 0, 0, 0);
        x.stock(0, 7);
        x.stock(2, 5);
        x.heat(3);
        x.bill(1, 1);
        for (int i = 0; i < 4; i++) {
            x.stand(0, i, 0);
        }
        for (int i = 0; i < 6; i++) {
            x.tell(i);
        }
        int[] counts = {2, 3, 4, 1, 6, 12, 3};
        for (int what = 0; what < 7; what++) {
            due("count(" + what + ")", x.count(what), counts[what]);
        }
        x.van(2);
        x.stock(3, 2000);
        due("count(5) of four", x.count(5), 2012);
        due("count(7)", x.count(7), BEYOND);
        due("count(-1)", x.count(-1), BEYOND);
    }

    private static void found() {
        ConeRounds x = town(1, 0);
        due("found(0)", x.found(0), BEYOND);
        due("found(6)", x.found(6), BEYOND);
        due("found(-1)", x.found(-1), BEYOND);
        due("found(1): those count too", x.found(1), 3);
        x.holder(0);
        x.check(0);
        due("found(2)", x.found(2), 2);
        x.licence(0, 0);
        x.plan(0, 0, 1);
        x.left(0, 0, 1);
        x.stop(0, 0, 1, 0);
        due("found(3)", x.found(3), 3);
        for (int i = 0; i < 5; i++) {
            x.van(0);
        }
        due("found(4)", x.found(4), 2);
        x.as(0, 2);
        due("found(5)", x.found(5), 1);
        x.plan(0, 0, 7);
        x.owed(5, 0);
        due("found(1)", x.found(1), 5);
        due("found tells the same again", x.found(1), 5);
    }

    private static void ask(int number) {
        promise = number;
        switch (number) {
            case 1: newObject(); break;
            case 2: street(); break;
            case 3: way(); break;
            case 4: wish(); break;
            case 5: heat(); break;
            case 6: van(); break;
            case 7: as(); break;
            case 8: stock(); break;
            case 9: licence(); break;
            case 10: law(); break;
            case 11: may(); break;
            case 12: worth(); break;
            case 13: plan(); break;
            case 14: stop(); break;
            case 15: left(); break;
            case 16: stand(); break;
            case 17: wrongs(); break;
            case 18: clear(); break;
            case 19: holder(); break;
            case 20: gets(); break;
            case 21: balance(); break;
            case 22: together(); break;
            case 23: credit(); break;
            case 24: bill(); break;
            case 25: pay(); break;
            case 26: owed(); break;
            case 27: tell(); break;
            case 28: check(); break;
            case 29: count(); break;
            default: found(); break;
        }
    }

    public static void main(String[] args) {
        for (int number = 1; number <= 30; number++) {
            ask(number);
        }
        System.out.println(wrong == 0 ? "all promises hold" : wrong + " answers are not as due");
        if (wrong != 0) {
            System.exit(1);
        }
    }
}

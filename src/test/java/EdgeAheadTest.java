/** The boundary cases of part 3 (promises 29 to 49): a test for each sentence. */
public final class EdgeAheadTest {
    private static final Check CHECK = new Check("EdgeAheadTest");

    public static void main(String[] args) {
        daysAhead();
        downIn();
        least();
        leastOfSeveral();
        rings();
        loosen();
        order();
        noOrder();
        round();
        twos("out", OUTS, (x, tray, n) -> x.out(0, tray, n));
        twos("ask", OUTS, (x, tray, n) -> x.ask(0, tray, n));
        twos("laws", "", MossSeats::laws);
        twos("lawOf", "", (x, tray, n) -> x.lawOf(tray, n, 0));
        out();
        ask();
        laws();
        off();
        stay();
        game();
        move();
        longAndShare();
        CHECK.finish();
    }

    private static MossSeats onTheLastDay(String text) {
        MossSeats x = CHECK.with(text);
        for (int i = 0; i < 10; i++) {
            x.day(999);
        }
        x.day(9);
        CHECK.due("the DAY", x.many(5), 9999);
        return x;
    }

    private static void daysAhead() {
        CHECK.sentence("In n DAYS: (beyond 9,999, too)", () -> {
            MossSeats x = onTheLastDay("matter a pace 1; matter b pace 0; sitter s mile 0 tall 50 for a;");
            x.crisis(0, 100);
            CHECK.good("CLEAR", x, x.clearIn(0, 60), 60);
            CHECK.good("HEIGHT", x, x.heightIn(0, 60), 20);
            CHECK.good("DOWN", x, x.downIn(0), 99);
            CHECK.tray(x, 0, 40, 30);
            CHECK.good("out", x, x.out(0, 0, 1), 1);
            CHECK.good("ask", x, x.ask(0, 0, 0), 1);
            CHECK.good("it is the last DAY still", x, x.many(5), 9999);
        });
        CHECK.sentence("Promise 29: in so many DAYS (0 to 200)", () -> {
            MossSeats x = CHECK.with("matter a pace 1; matter b pace 1; hold a by b; matter c pace 20 clear 99;");
            CHECK.good("0", x, x.clearIn(1, 0), 0);
            CHECK.good("1", x, x.clearIn(1, 1), 1);
            CHECK.good("100 at most", x, x.clearIn(2, 1), 100);
            CHECK.good("STUCK for 100", x, x.clearIn(0, 100), 0);
            CHECK.good("then not", x, x.clearIn(0, 101), 1);
            CHECK.good("199", x, x.clearIn(0, 199), 99);
            CHECK.good("200", x, x.clearIn(0, 200), 100);
        });
        CHECK.sentence("In n DAYS: of six MATTERS the last one, too", () -> {
            MossSeats x = CHECK.with(SIX.replace("matter f pace 1", "matter f pace 3 clear 40") + "sitter s mile 0 tall 50 for f;");
            CHECK.good("CLEAR now", x, x.clearIn(5, 0), 40);
            CHECK.good("CLEAR in 9", x, x.clearIn(5, 9), 67);
            CHECK.good("HEIGHT in 9", x, x.heightIn(0, 9), 16);
            CHECK.good("DOWN", x, x.downIn(0), 20);
        });
        CHECK.sentence("Promise 29: (2)", () -> {
            MossSeats x = CHECK.with(Check.WOOD);
            CHECK.outside(4, m -> CHECK.refused("clearIn(" + m + ", 0)", x, 2, () -> x.clearIn(m, 0)));
            CHECK.refused("ahead of 5", x, 2, () -> x.clearIn(4, 201));
        });
        CHECK.sentence("Promise 29: (5)", () -> {
            MossSeats x = CHECK.with(Check.WOOD);
            CHECK.outside(201, days -> CHECK.refused("clearIn(0, " + days + ")", x, 5, () -> x.clearIn(0, days)));
        });
        CHECK.sentence("Promise 30: in so many DAYS (0 to 200)", () -> {
            MossSeats x = CHECK.with("matter a pace 1; matter b pace 1; hold a by b; sitter s mile 0 tall 99 for a; sitter t mile 0 tall 3 for b;");
            CHECK.good("0", x, x.heightIn(1, 0), 3);
            CHECK.good("1, rounded down", x, x.heightIn(1, 1), 2);
            CHECK.good("198", x, x.heightIn(0, 198), 1);
            CHECK.good("199", x, x.heightIn(0, 199), 0);
            CHECK.good("200", x, x.heightIn(0, 200), 0);
        });
        CHECK.sentence("Promise 30: (2)", () -> {
            MossSeats x = CHECK.with(Check.WOOD);
            CHECK.outside(4, s -> CHECK.refused("heightIn(" + s + ", 0)", x, 2, () -> x.heightIn(s, 0)));
            CHECK.refused("ahead of 5", x, 2, () -> x.heightIn(4, 201));
        });
        CHECK.sentence("Promise 30: (5)", () -> {
            MossSeats x = CHECK.with(Check.WOOD);
            CHECK.outside(201, days -> CHECK.refused("heightIn(0, " + days + ")", x, 5, () -> x.heightIn(0, days)));
        });
    }

    private static void downIn() {
        CHECK.sentence("Promise 31: DOWN first, in 0", () -> {
            MossSeats x = CHECK.with("matter a pace 0 clear 91; matter b pace 0 clear 100; sitter s mile 0 tall 10 for a; sitter t mile 0 tall 10 for b;");
            CHECK.good("by rounding", x, x.downIn(0), 0);
            CHECK.good("by 100", x, x.downIn(1), 0);
        });
        String late = "matter a pace 1; matter b pace 1; matter c pace 1 clear 99; hold a by b; hold b by c; sitter s mile 0 tall 99 for a;";
        CHECK.sentence("Promise 31: (0 to 200)", () -> {
            MossSeats x = CHECK.with(late);
            CHECK.good("in just 200", x, x.downIn(0), 200);
            x.day(1);
            CHECK.good("in 199", x, x.downIn(0), 199);
        });
        CHECK.sentence("Promise 31: (8: in none)", () -> {
            MossSeats x = CHECK.with(late.replace("clear 99", "clear 98"));
            CHECK.refused("in 201", x, 8, () -> x.downIn(0));
            x.day(1);
            CHECK.good("a DAY later in 200", x, x.downIn(0), 200);
            MossSeats never = CHECK.with("matter a pace 0 clear 90; sitter s mile 0 tall 10 for a;");
            CHECK.refused("never", never, 8, () -> never.downIn(0));
            MossSeats ring = CHECK.with("matter a pace 9; matter b pace 9; hold a by b; hold b by a; sitter s mile 0 tall 10 for a;");
            CHECK.refused("in a RING", ring, 8, () -> ring.downIn(0));
        });
        CHECK.sentence("Promise 31: (2)", () -> {
            MossSeats x = CHECK.with(Check.WOOD);
            CHECK.outside(4, s -> CHECK.refused("downIn(" + s + ")", x, 2, () -> x.downIn(s)));
        });
    }

    private static void leasts(String what, MossSeats x, int sitters, int set) {
        CHECK.good(what + ": least", x, x.least(sitters), Integer.bitCount(set));
        CHECK.good(what + ": leastSet", x, x.leastSet(sitters), set);
    }

    private static void byNone(String what, MossSeats x, int sitters) {
        CHECK.refused(what + ": least", x, 8, () -> x.least(sitters));
        CHECK.refused(what + ": leastSet", x, 8, () -> x.leastSet(sitters));
    }

    private static void least() {
        CHECK.sentence("LEAST of a set of SITTERS, the empty one", () -> {
            leasts("of nobody", CHECK.with(Check.WOOD), 0, 0);
            leasts("in no WOOD", new MossSeats(), 0, 0);
        });
        CHECK.sentence("LEAST of a set of SITTERS, the full one", () -> {
            MossSeats x = CHECK.with("matter a pace 0 clear 50; matter b pace 0 clear 60; " + "sitter s mile 0 tall 9 for a;" + "sitter t mile 0 tall 9 for b;"
                + "sitter u mile 0 tall 9 for b;sitter v mile 0 tall 9 for b;sitter w mile 0 tall 9 for b;sitter x mile 0 tall 9 for b;sitter y mile 0 tall 99 for b;"
                + "news b size 10; news a size 39; news b size 28; news b size 30; news b size 29;");
            leasts("all seven", x, 127, 2 + 1 + 8);
            leasts("the seventh", x, 64, 1 + 8);
        });
        CHECK.sentence("Promises 32, 33: (5)", () -> {
            MossSeats x = CHECK.with(Check.WOOD);
            CHECK.outside(16, set -> {
                CHECK.refused("least(" + set + ")", x, 5, () -> x.least(set));
                CHECK.refused("leastSet(" + set + ")", x, 5, () -> x.leastSet(set));
            });
            MossSeats none = new MossSeats();
            CHECK.refused("least(1) of nobody", none, 5, () -> none.least(1));
            CHECK.refused("leastSet(1) of nobody", none, 5, () -> none.leastSet(1));
        });
        CHECK.sentence("Promises 32, 33: (8: by none)", () -> {
            MossSeats x = CHECK.with("matter a pace 0; sitter s mile 0 tall 10 for a; news a size 60; news a size 30;");
            byNone("90 is too little", x, 1);
            CHECK.refused("least: 5 ahead of 8", x, 5, () -> x.least(3));
            CHECK.refused("leastSet: 5 ahead of 8", x, 5, () -> x.leastSet(3));
            x.hear(0, 1);
            leasts("91 is enough", x, 1, 7);
            MossSeats none = CHECK.with("matter a pace 20 clear 99; sitter s mile 0 tall 99 for a; sitter t mile 0 tall 1 for a;");
            leasts("no NEWS, and he is DOWN", none, 1, 0);
            none.crisis(0, 1);
            byNone("no NEWS, and he is not", none, 1);
        });
        CHECK.sentence("LEAST: NEWS that did not come", () -> {
            MossSeats x = CHECK.with("matter a pace 0; sitter s mile 0 tall 99 for a; news a size 99; news a size 50; news a size 49;");
            leasts("one", x, 1, 1);
            x.bring(0);
            x.crisis(0, 100);
            leasts("without that", x, 1, 6);
            x.bring(1);
            x.crisis(0, 50);
            byNone("without both", x, 1);
        });
        CHECK.sentence("LEAST: (of MATTERS that are not SETTLED)", () -> {
            MossSeats x = CHECK.with("matter a pace 0 clear 100; matter b pace 0 clear 99; sitter s mile 0 tall 99 for a; sitter t mile 0 tall 99 for b; news a size 1; news b size 1;");
            leasts("who is DOWN needs none", x, 3, 0);
        });
        CHECK.sentence("LEAST: of six MATTERS the last one, too", () ->
            leasts("40 and 50", CHECK.with(SIX.replace("matter f pace 1", "matter f pace 3 clear 40") + "sitter s mile 0 tall 9 for f; news f size 48; news f size 50;"), 1, 2));
        CHECK.sentence("LEAST: all BROUGHT now, STUCK or not", () -> {
            MossSeats x = CHECK.with("matter a pace 0; matter b pace 0; hold a by b; sitter s mile 0 tall 99 for a; news b size 100; news a size 100;");
            leasts("of its own MATTER alone", x, 1, 2);
        });
    }

    private static void leastOfSeveral() {
        CHECK.sentence("LEAST: the fewest NEWS", () -> {
            MossSeats x = CHECK.with("matter a pace 0; sitter s mile 0 tall 9 for a; news a size 50; news a size 50; news a size 30; news a size 30; news a size 89;");
            leasts("one, though its number is the most", x, 1, 16);
            MossSeats y = CHECK.with("matter a pace 0; sitter s mile 0 tall 9 for a; news a size 30; news a size 30; news a size 30; news a size 60;");
            leasts("two ahead of three", y, 1, 9);
        });
        CHECK.sentence("LEAST: of several sets the least as a number", () -> {
            MossSeats x = CHECK.with("matter a pace 0; sitter s mile 0 tall 9 for a; news a size 40; news a size 45; news a size 44; news a size 1; news a size 1; news a size 49;");
            leasts("1 and 2, though 0 and 5 would do", x, 1, 2 + 4);
            MossSeats y = CHECK.with("matter a pace 0; sitter s mile 0 tall 9 for a; news a size 89; news a size 90; news a size 100;");
            leasts("each of three: the first", y, 1, 1);
        });
        CHECK.sentence("LEAST: (1 for NEWS 0 ..), to the eighth", () -> {
            MossSeats x = CHECK.with("matter a pace 0; sitter s mile 0 tall 9 for a;" + "news a size 1;".repeat(7) + "news a size 89;");
            leasts("the eighth", x, 1, 128);
            MossSeats y = CHECK.with("matter a pace 0; sitter s mile 0 tall 9 for a;" + "news a size 12;".repeat(8));
            leasts("all eight", y, 1, 255);
        });
    }

    private static final String SIX = "matter a pace 1;matter b pace 1;matter c pace 1;matter d pace 1;matter e pace 1;matter f pace 1;";

    private static void rings() {
        CHECK.sentence("RING: ... the last one by the first", () -> {
            MossSeats x = CHECK.with(SIX + "hold a by b; hold b by c; hold c by d; hold d by e; hold e by f;");
            CHECK.refused("not yet", x, 8, x::ring);
            x.bind(5, 0);
            CHECK.good("all six", x, x.ring(), 6);
        });
        CHECK.sentence("RING: the shortest one's length", () -> {
            MossSeats x = CHECK.with(SIX + "hold a by b; hold b by c; hold c by d; hold d by e; hold e by f; hold f by a; hold e by c;");
            CHECK.good("three of six", x, x.ring(), 3);
            x.bind(1, 0);
            CHECK.good("two", x, x.ring(), 2);
            MossSeats last = CHECK.with(SIX + "hold a by b; hold b by c; hold c by a; hold e by f; hold f by e;");
            CHECK.good("the last two", last, last.ring(), 2);
        });
        CHECK.sentence("RING: each of which is HELD by the next one, whoever else holds it", () -> {
            MossSeats x = CHECK.with(SIX + "hold a by b; hold a by f; hold b by a; hold b by f;");
            CHECK.good("f is in none", x, x.ring(), 2);
            MossSeats y = CHECK.with(SIX + "hold a by b; hold b by c; hold c by a;");
            CHECK.good("half of them are in none", y, y.ring(), 3);
        });
        CHECK.sentence("Promise 34: (8: there is none)", () -> {
            MossSeats none = new MossSeats();
            CHECK.refused("no MATTERS", none, 8, none::ring);
            MossSeats free = CHECK.with(SIX);
            CHECK.refused("no HOLDS", free, 8, free::ring);
            MossSeats tree = CHECK.with(SIX + "hold a by b; hold a by c; hold b by d; hold c by d; hold a by d; hold e by d; hold f by e; hold f by a; hold f by b; hold f by c;");
            CHECK.refused("ten HOLDS", tree, 8, tree::ring);
        });
        CHECK.sentence("RING: HELD, by SETTLED ones, too", () -> {
            MossSeats x = CHECK.with("matter a pace 1 clear 100; matter b pace 1; hold a by b; hold b by a;");
            CHECK.good("ring", x, x.ring(), 2);
            CHECK.good("loosen", x, x.loosen(), 1);
        });
    }

    private static void loosens(String what, MossSeats x, int set) {
        CHECK.good(what + ": loosen", x, x.loosen(), Integer.bitCount(set));
        CHECK.good(what + ": loosenSet", x, x.loosenSet(), set);
    }

    private static void loosen() {
        CHECK.sentence("LOOSEN: none", () -> {
            loosens("no MATTERS", new MossSeats(), 0);
            loosens("no HOLDS", CHECK.with(SIX), 0);
            loosens("one HOLD", CHECK.with(SIX + "hold a by b;"), 0);
            loosens("no RING", CHECK.with(SIX + "hold a by b; hold b by c; hold a by c; hold f by a;"), 0);
        });
        CHECK.sentence("LOOSEN: the fewest HOLDS", () -> {
            loosens("one of two RINGS", CHECK.with(SIX + "hold a by b; hold b by a; hold c by a; hold b by c;"), 1);
            loosens("of two RINGS apart", CHECK.with(SIX + "hold a by b; hold b by a; hold c by d; hold d by c;"), 1 | 4);
            loosens("one, though its number is more", CHECK.with(SIX + "hold b by a; hold c by a; hold a by d; hold d by b; hold d by c;"), 4);
        });
        CHECK.sentence("LOOSEN: of several sets the least as a number (1 for HOLD 0 ..)", () -> {
            loosens("the first of three", CHECK.with(SIX + "hold a by b; hold b by c; hold c by a;"), 1);
            loosens("the first that is in it", CHECK.with(SIX + "hold e by f; hold a by f; hold a by b; hold b by c; hold c by a;"), 4);
        });
        CHECK.sentence("LOOSEN: of ten HOLDS, the last ones", () -> {
            loosens("the ninth", CHECK.with(SIX + "hold a by b; hold a by c; hold a by d; hold a by e; hold a by f; hold b by c; hold b by d; hold b by e; hold e by f; hold f by e;"), 256);
            loosens("the tenth", CHECK.with(SIX + "hold a by b; hold a by c; hold a by d; hold b by c; hold b by d; hold c by d; hold d by e; hold d by f; hold b by e; hold e by a;"), 512);
            loosens("five", CHECK.with(SIX + "hold a by b; hold b by a; hold a by c; hold c by a; hold a by d; hold d by a; hold a by e; hold e by a; hold a by f; hold f by a;"), 1 + 4 + 16 + 64 + 256);
        });
    }

    private static void orders(String what, MossSeats x, int waiting, int... order) {
        CHECK.good(what + ": waiting", x, x.waiting(), waiting);
        for (int k = 0; k < order.length; k++) {
            CHECK.good(what + ": the " + k + "th", x, x.orderAt(k), order[k]);
        }
        CHECK.refused(what + ": no more", x, 8, () -> x.orderAt(order.length));
    }

    private static void order() {
        CHECK.sentence("DECIDE: all MATTERS one behind the other, none, one, six", () -> {
            orders("none", new MossSeats(), 0);
            orders("one", CHECK.with("matter a pace 10; sitter s mile 0 tall 1 for a weight 9;"), 90, 0);
            orders("six", CHECK.with("matter a pace 1;matter b pace 2;matter c pace 4;matter d pace 5;matter e pace 10;matter f pace 20;"
                + "sitter g mile 0 tall 1 for a;sitter h mile 0 tall 1 for b;sitter i mile 0 tall 1 for c;sitter j mile 0 tall 1 for d;sitter k mile 0 tall 1 for e;"
                + "sitter l mile 0 tall 1 for f;"), 5 + 15 + 35 + 60 + 110 + 210, 5, 4, 3, 2, 1, 0);
        });
        CHECK.sentence("DECIDE: all MATTERS there are, none of a WOOD ahead", () -> {
            MossSeats x = CHECK.with(SIX + "sitter g mile 0 tall 1 for a;sitter h mile 0 tall 1 for f weight 9;");
            orders("six", x, 900 + 200, 5, 0, 1, 2, 3, 4);
            Check.wood(x, "matter a pace 1; matter b pace 1; sitter g mile 0 tall 1 for b;");
            orders("two", x, 100, 1, 0);
        });
        CHECK.sentence("DECIDE: none ahead of one by which it is HELD", () -> {
            orders("by the last", CHECK.with("matter a pace 20; matter b pace 20; matter c pace 1; hold a by c; sitter s mile 0 tall 1 for a weight 9; sitter t mile 0 tall 1 for b;"),
                5 + 9 * 110, 1, 2, 0);
            orders("by a SETTLED one", CHECK.with("matter a pace 20; matter b pace 0 clear 100; hold a by b; sitter s mile 0 tall 1 for a;"), 5, 1, 0);
            orders("a SETTLED one", CHECK.with("matter a pace 0 clear 100; matter b pace 10; hold a by b; sitter s mile 0 tall 1 for a;"), 10, 1, 0);
        });
        CHECK.sentence("DECIDE: each for as many DAYS as its LOAD is", () -> {
            orders("rounded up", CHECK.with("matter a pace 3; sitter s mile 0 tall 1 for a;"), 34, 0);
            orders("SETTLED: 0", CHECK.with("matter a pace 3 clear 100; sitter s mile 0 tall 1 for a weight 9;"), 0, 0);
        });
        CHECK.sentence("WAITING: of each SITTER his WEIGHT times the DAYS", () -> {
            orders("by WEIGHT", CHECK.with("matter a pace 10; matter b pace 20; sitter s mile 0 tall 1 for a weight 3; sitter t mile 0 tall 1 for b;"), 30 + 15, 0, 1);
            orders("two of one MATTER", CHECK.with("matter a pace 10; matter b pace 20; sitter s mile 0 tall 1 for a weight 2; sitter t mile 0 tall 1 for b; sitter u mile 9 tall 9 for a;"), 30 + 15, 0, 1);
            orders("nobody", CHECK.with("matter a pace 10; matter b pace 20; hold a by b;"), 0, 1, 0);
            orders("who is DOWN waits, too", CHECK.with("matter a pace 20 clear 99; sitter s mile 0 tall 1 for a;"), 1, 0);
        });
        CHECK.sentence("The ORDER: of several the first by MATTERS, one by one", () -> {
            orders("nobody waits", CHECK.with(SIX), 0, 0, 1, 2, 3, 4, 5);
            orders("as long", CHECK.with("matter a pace 10; matter b pace 10; matter c pace 10; sitter s mile 0 tall 1 for c; sitter t mile 0 tall 1 for b;"), 30, 1, 2, 0);
            orders("10 by 2 as 5 by 1", CHECK.with("matter a pace 20; matter b pace 10; sitter s mile 0 tall 1 for a; sitter t mile 0 tall 1 for b weight 2;"), 5 + 30, 0, 1);
            orders("where nothing is to be waited for", CHECK.with("matter a pace 10; matter b pace 0 clear 100; matter c pace 0 clear 100; hold b by c; sitter s mile 0 tall 1 for a;"),
                10, 0, 2, 1);
        });
    }

    private static void noOrder(String what, MossSeats x) {
        CHECK.refused(what + ": waiting", x, 8, x::waiting);
        CHECK.refused(what + ": orderAt", x, 8, () -> x.orderAt(0));
    }

    private static void noOrder() {
        CHECK.sentence("(There is none, if there is a RING", () -> {
            noOrder("a RING", CHECK.with("matter a pace 1; matter b pace 1; hold a by b; hold b by a;"));
            noOrder("of SETTLED ones", CHECK.with("matter a pace 1 clear 100; matter b pace 1 clear 100; hold a by b; hold b by a;"));
            noOrder("of the last ones", CHECK.with(SIX + "hold d by e; hold e by f; hold f by d;"));
        });
        CHECK.sentence("(There is none, if ... or a MATTER that never is SETTLED by its PACE alone.)", () -> {
            noOrder("the only one", CHECK.with("matter a pace 0 clear 99;"));
            noOrder("the last one", CHECK.with("matter a pace 1; matter b pace 0;"));
            orders("but SETTLED it may be", CHECK.with("matter a pace 1; matter b pace 0 clear 100;"), 0, 0, 1);
        });
        CHECK.sentence("Promise 38: from 0 on (8: there is none, no such)", () -> {
            MossSeats x = CHECK.with(SIX);
            CHECK.good("the first", x, x.orderAt(0), 0);
            CHECK.good("the last", x, x.orderAt(5), 5);
            CHECK.outside(6, k -> CHECK.refused("orderAt(" + k + ")", x, 8, () -> x.orderAt(k)));
        });
    }

    private static void round() {
        CHECK.sentence("Promise 39: from a MILE (0 to 59)", () -> {
            MossSeats x = CHECK.with("matter a pace 0; sitter s mile 59 tall 9 for a; sitter t mile 0 tall 9 for a;");
            CHECK.good("0", x, x.round(0), 59);
            CHECK.good("59", x, x.round(59), 59);
            CHECK.good("29", x, x.round(29), 29 + 29 + 59);
            CHECK.good("30", x, x.round(30), 29 + 29 + 59);
        });
        CHECK.sentence("Promise 39: (5)", () -> {
            MossSeats x = CHECK.with(Check.WOOD);
            CHECK.outside(60, mile -> CHECK.refused("round(" + mile + ")", x, 5, () -> x.round(mile)));
        });
        CHECK.sentence("ROUND: to all SITTERS who are not DOWN", () -> {
            MossSeats x = CHECK.with("matter a pace 0 clear 90; sitter s mile 5 tall 9 for a; sitter t mile 10 tall 10 for a; sitter u mile 40 tall 9 for a;");
            CHECK.good("one of three", x, x.round(5), 5);
            x.hear(0, 1);
            x.bring(0);
            CHECK.good("none of three", x, x.round(5), 0);
            MossSeats none = new MossSeats();
            CHECK.good("nobody", none, none.round(59), 0);
        });
        CHECK.sentence("ROUND: (Those at a MILE are served as he is there", () -> {
            MossSeats x = CHECK.with("matter a pace 0; sitter s mile 5 tall 9 for a; sitter t mile 10 tall 9 for a; sitter u mile 5 tall 9 for a;");
            CHECK.good("two of a MILE", x, x.round(0), 5 + 5 + 10);
            MossSeats seven = CHECK.with("matter a pace 0;" + "sitter b mile 9 tall 9 for a;sitter c mile 9 tall 9 for a;sitter d mile 9 tall 9 for a;sitter e mile 9 tall 9 for a;"
                + "sitter f mile 9 tall 9 for a;sitter g mile 9 tall 9 for a;sitter h mile 9 tall 9 for a;");
            CHECK.good("seven of a MILE", seven, seven.round(10), 7);
        });
        CHECK.sentence("ROUND: he who waits at his own MILE waits for 0.)", () -> {
            MossSeats x = CHECK.with("matter a pace 0; sitter s mile 0 tall 9 for a; sitter t mile 59 tall 9 for a;");
            CHECK.good("the other one alone waits", x, x.round(59), 59);
            MossSeats one = CHECK.with("matter a pace 0; sitter s mile 7 tall 9 for a;");
            CHECK.good("he alone", one, one.round(7), 0);
        });
        CHECK.sentence("ROUND: to all SITTERS, seven of them, as he likes", () -> {
            int[][] seats = {{5, 50, 7, 44, 9, 31, 20}, {59, 0, 58, 1, 57, 2, 56}, {30, 29, 31, 28, 32, 27, 33}, {0, 59, 0, 59, 0, 59, 30}, {40, 41, 42, 43, 44, 3, 2}};
            for (int[] miles : seats) {
                StringBuilder text = new StringBuilder("matter a pace 0;");
                for (int s = 0; s < 7; s++) {
                    text.append("sitter ").append((char) ('t' + s)).append(" mile ").append(miles[s]).append(" tall 9 for a;");
                }
                MossSeats x = CHECK.with(text.toString());
                for (int from = 0; from <= 59; from++) {
                    CHECK.good("from " + from, x, x.round(from), leastWaits(from, miles, 0));
                }
            }
        });
        CHECK.sentence("ROUND: the least MINUTES, all together, without WEIGHT", () -> {
            MossSeats x = CHECK.with("matter a pace 0; sitter s mile 8 tall 9 for a weight 9; sitter t mile 13 tall 1 for a; sitter u mile 14 tall 99 for a;");
            CHECK.good("the two first, though they are farther", x, x.round(10), 3 + 4 + 10);
            CHECK.good("the near one first", x, x.round(9), 1 + 6 + 7);
        });
    }

    /** By all ways that there are, on from a MILE, some having been served. */
    private static int leastWaits(int from, int[] miles, int served) {
        int waiting = miles.length - Integer.bitCount(served);
        int least = waiting == 0 ? 0 : Integer.MAX_VALUE;
        for (int s = 0; s < miles.length; s++) {
            if ((served >> s & 1) == 0) {
                least = Math.min(least, Math.abs(miles[s] - from) * waiting + leastWaits(miles[s], miles, served | 1 << s));
            }
        }
        return least;
    }

    private interface ByTwos {
        int call(MossSeats x, int tray, int n);
    }

    private static final String OUTS = "matter p pace 10; matter q pace 5; matter r pace 10 clear 50; matter s pace 0; sitter t mile 0 tall 10 for q;";

    /** The latest call was not refused, or none of what it asks for is there. */
    private static void notBad(String what, MossSeats x) {
        CHECK.due(what, x.status() == 0 || x.status() == 8, true);
    }

    /** What all calls by twos of DAYS and HEIGHTS ask first; those of a SITTER ask for him, too. */
    private static void twos(String call, String text, ByTwos by) {
        CHECK.sentence(call + ": (1)", () -> {
            MossSeats x = CHECK.with(text);
            CHECK.outside(4, t -> CHECK.refused("TRAY " + t, x, 1, () -> by.call(x, t, 0)));
            CHECK.refused("ahead of 5", x, 1, () -> by.call(x, 4, -1));
        });
        CHECK.sentence(call + ": (3)", () -> {
            MossSeats x = CHECK.with(text);
            for (int t = 0; t <= 3; t++) {
                int tray = t;
                CHECK.refused("TRAY " + t, x, 3, () -> by.call(x, tray, 0));
                CHECK.refused("ahead of 4", x, 3, () -> by.call(x, tray, 20));
                CHECK.refused("ahead of 5", x, 3, () -> by.call(x, tray, -1));
            }
        });
        CHECK.sentence(call + ": (4: too few numbers)", () -> {
            MossSeats x = CHECK.with(text);
            x.tray(0, 3, 0);
            CHECK.refused("one two of none", x, 4, () -> by.call(x, 0, 1));
            CHECK.tray(x, 1, 0, 10, 1);
            CHECK.refused("two twos of three", x, 4, () -> by.call(x, 1, 2));
            CHECK.refused("the most", x, 4, () -> by.call(x, 1, Integer.MAX_VALUE));
            CHECK.refused("half of all", x, 4, () -> by.call(x, 1, 1 << 30));
            by.call(x, 1, 1);
            notBad("one two of three", x);
            CHECK.tray(x, 2, 41, 0, 0);
            CHECK.refused("ahead of 5", x, 4, () -> by.call(x, 2, 2));
            CHECK.refused("ahead of n above 20", x, 4, () -> by.call(x, 2, 21));
        });
        CHECK.sentence(call + ": the first n (0 to 20) twos", () -> {
            MossSeats x = CHECK.with(text);
            x.tray(0, 3, 60);
            by.call(x, 0, 20);
            notBad("20", x);
            by.call(x, 0, 0);
            notBad("0", x);
            CHECK.refused("21", x, 5, () -> by.call(x, 0, 21));
            CHECK.refused("30", x, 5, () -> by.call(x, 0, 30));
            CHECK.refused("-1", x, 5, () -> by.call(x, 0, -1));
            CHECK.refused("the least", x, 5, () -> by.call(x, 0, Integer.MIN_VALUE));
        });
        CHECK.sentence(call + ": DAYS (0 to 40)", () -> number(text, by, 0, 40));
        CHECK.sentence(call + ": a HEIGHT (0 to 99)", () -> number(text, by, 1, 99));
        CHECK.sentence(call + ": numbers behind the first n twos", () -> {
            MossSeats x = CHECK.with(text);
            CHECK.tray(x, 0, 0, 10, 41, 100);
            by.call(x, 0, 1);
            notBad("are not asked for", x);
            CHECK.refused("but by the next n", x, 5, () -> by.call(x, 0, 2));
        });
    }

    private static void number(String text, ByTwos by, int which, int most) {
        MossSeats x = CHECK.with(text);
        for (long v : new long[] {0, most}) {
            CHECK.tray(x, 0, 0, 10, which == 0 ? v : 0, which == 1 ? v : 0);
            by.call(x, 0, 2);
            notBad(v + " can be", x);
        }
        for (long v : new long[] {-1, most + 1, 1L << 32, (1L << 32) + 1, -(1L << 32), Long.MIN_VALUE, Long.MAX_VALUE}) {
            CHECK.tray(x, 0, 0, 10, which == 0 ? v : 0, which == 1 ? v : 0);
            CHECK.refused(v + " can't be", x, 5, () -> by.call(x, 0, 2));
        }
        x.tray(0, 0, 2);
        x.write(0, which, 128);
        CHECK.refused("128 cut to 8 bits", x, 5, () -> by.call(x, 0, 1));
        x.write(0, which, 256);
        by.call(x, 0, 1);
        notBad("256 cut to 8 bits", x);
    }

    private static void out() {
        CHECK.sentence("OUT: the set of MATTERS (1 for MATTER 0 ..), by no twos all", () -> {
            MossSeats x = CHECK.with(OUTS);
            x.tray(0, 0, 0);
            CHECK.good("all four", x, x.out(0, 0, 0), 15);
            MossSeats six = CHECK.with(SIX + "sitter s mile 0 tall 9 for f;");
            six.tray(0, 0, 0);
            CHECK.good("all six", six, six.out(0, 0, 0), 63);
        });
        CHECK.sentence("OUT: so that he has each of these HEIGHTS in so many DAYS from now", () -> {
            MossSeats x = CHECK.with(OUTS);
            CHECK.tray(x, 0, 0, 10, 1, 9, 40, 0);
            CHECK.good("now", x, x.out(0, 0, 1), 1 + 2 + 8);
            CHECK.good("in one", x, x.out(0, 0, 2), 1 + 2);
            CHECK.good("in 40", x, x.out(0, 0, 3), 1 + 2);
            x.day(2);
            CHECK.good("two DAYS later now is not as it was", x, x.out(0, 0, 1), 8);
        });
        CHECK.sentence("OUT: of six MATTERS, by twos", () -> {
            MossSeats x = CHECK.with(SIX.replace("matter f pace 1", "matter f pace 2").replace("matter a pace 1", "matter a pace 2") + "sitter s mile 0 tall 50 for f;");
            CHECK.tray(x, 0, 0, 50, 1, 49, 2, 48);
            CHECK.good("by one", x, x.out(0, 0, 1), 63);
            CHECK.good("by two", x, x.out(0, 0, 2), 63);
            CHECK.good("by three", x, x.out(0, 0, 3), 1 + 32);
        });
        CHECK.sentence("OUT: none", () -> {
            MossSeats x = CHECK.with(OUTS);
            CHECK.tray(x, 0, 0, 11);
            CHECK.good("taller than his seat", x, x.out(0, 0, 1), 0);
        });
        CHECK.sentence("OUT: HEIGHTS, rounded down", () -> {
            MossSeats x = CHECK.with("matter a pace 0 clear 85; matter b pace 0 clear 90; matter c pace 0 clear 91; sitter s mile 0 tall 10 for c;");
            CHECK.tray(x, 0, 40, 1);
            CHECK.good("1.5 and 1, not 0.9", x, x.out(0, 0, 1), 3);
        });
        CHECK.sentence("Promises 40, 41: (2)", () -> {
            MossSeats x = CHECK.with(OUTS);
            x.tray(0, 3, 2);
            CHECK.outside(1, s -> {
                CHECK.refused("out(" + s + ", ..)", x, 2, () -> x.out(s, 0, 0));
                CHECK.refused("ask(" + s + ", ..)", x, 2, () -> x.ask(s, 0, 0));
                CHECK.refused("out: ahead of 3", x, 2, () -> x.out(s, 1, 0));
                CHECK.refused("ask: ahead of 3", x, 2, () -> x.ask(s, 1, 0));
                CHECK.refused("out: behind 1", x, 1, () -> x.out(s, 4, 0));
                CHECK.refused("ask: behind 1", x, 1, () -> x.ask(s, -1, 0));
                CHECK.refused("out: ahead of 4", x, 2, () -> x.out(s, 0, 2));
                CHECK.refused("ask: ahead of 5", x, 2, () -> x.ask(s, 0, -1));
            });
        });
    }

    private static void ask() {
        CHECK.sentence("Promise 41: (8: fewer than two MATTERS)", () -> {
            MossSeats x = CHECK.with("matter a pace 0; matter b pace 1; sitter s mile 0 tall 50 for a;");
            CHECK.tray(x, 0, 0, 50, 1, 50, 2, 51);
            CHECK.good("two", x, x.ask(0, 0, 1), 1);
            CHECK.refused("one", x, 8, () -> x.ask(0, 0, 2));
            CHECK.refused("none", x, 8, () -> x.ask(0, 0, 3));
            CHECK.refused("5 ahead of 8", x, 5, () -> x.ask(0, 0, -1));
            MossSeats one = CHECK.with("matter a pace 0; sitter s mile 0 tall 50 for a;");
            one.tray(0, 3, 0);
            CHECK.refused("one there is", one, 8, () -> one.ask(0, 0, 0));
        });
        CHECK.sentence("ASK: the DAYS (0 to 40)", () -> {
            MossSeats now = CHECK.with("matter a pace 1; matter b pace 1 clear 2; sitter s mile 0 tall 50 for a;");
            now.tray(0, 3, 0);
            CHECK.good("0", now, now.ask(0, 0, 0), 0);
            MossSeats x = CHECK.with("matter a pace 1; matter b pace 0; matter c pace 1 clear 61; hold a by c; sitter s mile 0 tall 99 for a;");
            CHECK.tray(x, 0, 0, 99);
            CHECK.good("40", x, x.ask(0, 0, 1), 40);
            x.crisis(2, 1);
            CHECK.good("41 is too late: all are alike, so the least", x, x.ask(0, 0, 1), 0);
        });
        CHECK.sentence("ASK: the most by which he has one HEIGHT then are the fewest", () -> {
            MossSeats x = CHECK.with("matter a pace 0; matter b pace 0; matter c pace 5; matter d pace 5 clear 1; sitter s mile 0 tall 99 for a; matter e pace 6;");
            CHECK.tray(x, 0, 0, 99);
            CHECK.good("two of four", x, x.ask(0, 0, 1), 1);
            MossSeats six = CHECK.with("matter a pace 0; matter b pace 0; matter c pace 0; matter d pace 0; matter e pace 0; matter f pace 1; sitter s mile 0 tall 50 for f;");
            six.tray(0, 3, 0);
            CHECK.good("five of six", six, six.ask(0, 0, 0), 1);
        });
        CHECK.sentence("ASK: the most by which he has one HEIGHT, whichever these are", () -> {
            MossSeats first = CHECK.with("matter a pace 0; matter b pace 1 clear 50; matter c pace 2 clear 50; matter d pace 3 clear 50; sitter s mile 0 tall 99 for a;");
            first.tray(0, 3, 0);
            CHECK.good("not the first", first, first.ask(0, 0, 0), 1);
            MossSeats last = CHECK.with("matter b pace 1 clear 50; matter c pace 2 clear 50; matter d pace 3 clear 50; matter a pace 0; sitter s mile 0 tall 99 for a;");
            last.tray(0, 3, 0);
            CHECK.good("not the last", last, last.ask(0, 0, 0), 1);
            MossSeats two = CHECK.with("matter a pace 0; matter b pace 1 clear 50; matter c pace 2 clear 50; matter d pace 0 clear 9; sitter s mile 0 tall 99 for a;");
            two.tray(0, 3, 0);
            CHECK.good("neither of them", two, two.ask(0, 0, 0), 1);
        });
        CHECK.sentence("ASK: the MATTERS of OUT alone", () -> {
            MossSeats x = CHECK.with("matter a pace 1; matter b pace 2; matter c pace 0 clear 99; matter d pace 0 clear 99; sitter s mile 0 tall 10 for a;");
            CHECK.tray(x, 0, 0, 10);
            CHECK.good("those of 0 apart", x, x.ask(0, 0, 1), 6);
        });
        CHECK.sentence("ASK: of several the least", () -> {
            MossSeats x = CHECK.with("matter a pace 10; matter b pace 20; sitter s mile 0 tall 10 for a;");
            x.tray(0, 3, 0);
            CHECK.good("on all DAYS to 9 they are parted", x, x.ask(0, 0, 0), 1);
            MossSeats same = CHECK.with("matter a pace 3; matter b pace 3; sitter s mile 0 tall 10 for a;");
            same.tray(0, 3, 0);
            CHECK.good("never parted", same, same.ask(0, 0, 0), 0);
        });
    }

    private static int lawCount(int days, int height) {
        int count = 0;
        for (int tall = 1; tall <= 99; tall++) {
            for (int pace = 0; pace <= 20; pace++) {
                count += tall * Math.max(0, 100 - pace * days) / 100 == height ? 1 : 0;
            }
        }
        return count;
    }

    private static void laws() {
        CHECK.sentence("LAW: couples of a TALL (1 to 99) and a PACE (0 to 20)", () -> {
            MossSeats x = new MossSeats();
            x.tray(0, 0, 2);
            CHECK.good("all", x, x.laws(0, 0), 99 * 21);
            CHECK.good("the first TALL", x, x.lawOf(0, 0, 0), 1);
            CHECK.good("the first PACE", x, x.lawOf(0, 0, 1), 0);
            CHECK.tray(x, 0, 0, 99, 4, 19, 5, 0);
            CHECK.good("the last", x, x.laws(0, 3), 1);
            CHECK.good("the last TALL", x, x.lawOf(0, 3, 0), 99);
            CHECK.good("the last PACE", x, x.lawOf(0, 3, 1), 20);
            CHECK.tray(x, 1, 0, 1, 40, 1);
            CHECK.good("the first alone", x, x.laws(1, 2), 1);
            CHECK.good("the first alone: TALL", x, x.lawOf(1, 2, 0), 1);
        });
        CHECK.sentence("LAW: no TALL of 0 or 100, no PACE of 21", () -> {
            MossSeats x = new MossSeats();
            CHECK.tray(x, 0, 0, 0);
            CHECK.tray(x, 1, 1, 99, 2, 98);
            CHECK.tray(x, 2, 0, 99, 1, 78);
            for (int tray = 0; tray <= 2; tray++) {
                int none = tray;
                int n = tray == 0 ? 1 : 2;
                CHECK.good("none", x, x.laws(tray, n), 0);
                CHECK.refused("no TALL", x, 8, () -> x.lawOf(none, n, 0));
                CHECK.refused("no PACE", x, 8, () -> x.lawOf(none, n, 1));
            }
        });
        CHECK.sentence("LAW: as its MATTER was CLEAR by 0 on DAY 0 and never STUCK", () -> {
            MossSeats x = CHECK.with("matter a pace 1; matter b pace 0; hold a by b; sitter s mile 0 tall 50 for a;");
            for (int days : new int[] {0, 1, 5, 7, 40}) {
                for (int height : new int[] {0, 1, 50, 98, 99}) {
                    CHECK.tray(x, 0, days, height);
                    CHECK.good(height + " on DAY " + days, x, x.laws(0, 1), lawCount(days, height));
                }
            }
            x.day(9);
            CHECK.tray(x, 0, 1, 49);
            CHECK.good("whatever DAY it is", x, x.laws(0, 1), lawCount(1, 49));
        });
        CHECK.sentence("LAW: of these the first by TALL, then PACE", () -> {
            MossSeats x = new MossSeats();
            CHECK.tray(x, 0, 1, 9);
            CHECK.good("TALL 9 or more", x, x.lawOf(0, 1, 0), 9);
            CHECK.good("by PACE 0", x, x.lawOf(0, 1, 1), 0);
            CHECK.tray(x, 0, 1, 9, 40, 0);
            CHECK.good("TALL 10", x, x.lawOf(0, 2, 0), 10);
            CHECK.good("PACE 3, though more would do", x, x.lawOf(0, 2, 1), 3);
        });
        CHECK.sentence("Promise 43: TALL (what 0), PACE (1) (5)", () -> {
            MossSeats x = new MossSeats();
            x.tray(0, 3, 2);
            CHECK.outside(2, what -> CHECK.refused("what " + what, x, 5, () -> x.lawOf(0, 0, what)));
            CHECK.refused("3 ahead of 5", x, 3, () -> x.lawOf(1, 0, 2));
            CHECK.refused("4 ahead of 5", x, 4, () -> x.lawOf(0, 2, 2));
            CHECK.refused("1 ahead of 5", x, 1, () -> x.lawOf(4, 0, 2));
        });
        CHECK.sentence("Promise 43: (8: none fits)", () -> {
            MossSeats x = new MossSeats();
            CHECK.tray(x, 0, 0, 50, 0, 51);
            CHECK.refused("TALL", x, 8, () -> x.lawOf(0, 2, 0));
            CHECK.refused("PACE", x, 8, () -> x.lawOf(0, 2, 1));
            CHECK.refused("5 ahead of 8", x, 5, () -> x.lawOf(0, 2, 2));
            CHECK.good("how many", x, x.laws(0, 2), 0);
        });
    }

    private static void off() {
        CHECK.sentence("OFF of a HEIGHT h (0 to 99)", () -> {
            MossSeats x = new MossSeats();
            CHECK.fraction("0", x, x.off(0, 3), 0, 1);
            x.rule(0);
            CHECK.fraction("99", x, x.off(99, 3), 99, 1);
            CHECK.outside(100, h -> CHECK.refusedNo("HEIGHT " + h, x, 5, () -> x.off(h, 0)));
        });
        CHECK.sentence("OFF of n DAYS (0 to 8)", () -> {
            MossSeats x = new MossSeats();
            x.rule(8);
            CHECK.fraction("0", x, x.off(99, 0), 99, 1);
            CHECK.fraction("1", x, x.off(99, 1), 101, 2);
            CHECK.fraction("8", x, x.off(99, 8), 609, 256);
            CHECK.outside(9, days -> CHECK.refusedNo(days + " DAYS", x, 5, () -> x.off(1, days)));
        });
        CHECK.sentence("OFF: behind the last one gets off", () -> {
            MossSeats x = new MossSeats();
            CHECK.fraction("none to wait on", x, x.off(50, 0), 50, 1);
            x.rule(1);
            CHECK.fraction("8 to wait on", x, x.off(99, 8), 281439398611L, 4294967296L);
        });
        CHECK.sentence("OFF: the least that there is", () -> {
            MossSeats x = new MossSeats();
            CHECK.fraction("1 and three quarters of 3 are more than 3", x, x.off(3, 8), 3, 1);
            CHECK.fraction("as much", x, x.off(4, 8), 4, 1);
            CHECK.fraction("less", x, x.off(5, 1), 19, 4);
        });
        CHECK.sentence("OFF: by ODDS sixteenths it is SETTLED then (nothing more)", () -> {
            MossSeats x = new MossSeats();
            x.rule(16);
            CHECK.fraction("surely", x, x.off(99, 1), 1, 1);
            x.rule(15);
            CHECK.fraction("nearly", x, x.off(16, 1), 2, 1);
            x.rule(0);
            CHECK.fraction("never", x, x.off(2, 8), 2, 1);
        });
    }

    private static void stay() {
        CHECK.sentence("STAY: whether it is less than h", () -> {
            MossSeats x = new MossSeats();
            CHECK.good("less", x, x.stay(5, 1), 1);
            CHECK.good("as much", x, x.stay(4, 1), 0);
            CHECK.good("more", x, x.stay(3, 1), 0);
            CHECK.good("no DAYS", x, x.stay(99, 0), 0);
            CHECK.good("HEIGHT 0", x, x.stay(0, 8), 0);
            CHECK.good("HEIGHT 99", x, x.stay(99, 8), 1);
            x.rule(16);
            CHECK.good("1 is as much", x, x.stay(1, 8), 0);
            CHECK.good("2 is more", x, x.stay(2, 1), 1);
        });
        CHECK.sentence("Promise 45: (5)", () -> {
            MossSeats x = new MossSeats();
            CHECK.outside(100, h -> CHECK.refused("HEIGHT " + h, x, 5, () -> x.stay(h, 0)));
            CHECK.outside(9, days -> CHECK.refused(days + " DAYS", x, 5, () -> x.stay(1, days)));
        });
    }

    private static final String DUEL = "matter p pace 1; matter q pace 1; sitter s mile 0 tall 50 for p; sitter t mile 0 tall 90 for q;"
        + "news p size 10; news q size 20; news p size 30; news q size 40;";

    private static void game() {
        CHECK.sentence("GAME of two SITTERS and n turns (0 to 4)", () -> {
            MossSeats x = CHECK.with(DUEL);
            int[] due = {90 - 50, 90 - 35, 54 - 35, 54 - 30, 36 - 30};
            for (int turns = 0; turns <= 4; turns++) {
                CHECK.good(turns + " turns", x, x.game(0, 1, turns), due[turns]);
            }
            CHECK.outside(5, turns -> CHECK.refused(turns + " turns", x, 5, () -> x.game(0, 1, turns)));
        });
        CHECK.sentence("GAME: (5: one and himself, too)", () -> {
            MossSeats x = CHECK.with(DUEL);
            CHECK.refused("the first", x, 5, () -> x.game(0, 0, 1));
            CHECK.refused("the last", x, 5, () -> x.game(1, 1, 0));
        });
        CHECK.sentence("GAME: (2)", () -> {
            MossSeats x = CHECK.with(DUEL);
            CHECK.outside(2, s -> {
                CHECK.refused("game(" + s + ", 0, 1)", x, 2, () -> x.game(s, 0, 1));
                CHECK.refused("game(0, " + s + ", 1)", x, 2, () -> x.game(0, s, 1));
                CHECK.refused("ahead of one and himself", x, 2, () -> x.game(s, s, 1));
                CHECK.refused("ahead of the turns", x, 2, () -> x.game(s, 0, 5));
            });
        });
        CHECK.sentence("GAME: STATUS tells NONE from -1", () -> {
            MossSeats x = CHECK.with("matter p pace 0; sitter s mile 0 tall 9 for p; sitter t mile 0 tall 8 for p; news p size 10;");
            x.many(10);
            CHECK.good("-1", x, x.game(0, 1, 0), -1);
            CHECK.good("the other way round", x, x.game(1, 0, 0), 1);
        });
        CHECK.sentence("GAME: one BRINGS a NEWS, or none", () -> {
            MossSeats x = CHECK.with("matter p pace 0; matter q pace 0; sitter s mile 0 tall 9 for p; sitter t mile 0 tall 90 for q; news q size 50;");
            CHECK.good("the first brings none", x, x.game(0, 1, 1), 81);
            CHECK.good("the second brings it", x, x.game(0, 1, 2), 45 - 9);
            MossSeats none = CHECK.with("matter p pace 0; sitter s mile 0 tall 9 for p; sitter t mile 0 tall 90 for p;");
            CHECK.good("there is none", none, none.game(0, 1, 4), 81);
        });
        CHECK.sentence("GAME: not a NEWS that CAME, nor of a MATTER that is SETTLED", () -> {
            MossSeats x = CHECK.with("matter p pace 0; matter q pace 0 clear 100; sitter s mile 0 tall 50 for p; sitter t mile 0 tall 90 for q; news p size 60; news q size 9; news p size 60;");
            CHECK.good("twice is 100", x, x.game(0, 1, 3), 0);
            x.bring(0);
            CHECK.good("once more", x, x.game(0, 1, 1), 0);
            x.crisis(0, 60);
            CHECK.good("what CAME does not come", x, x.game(0, 1, 3), -20);
        });
    }

    private static void move() {
        CHECK.sentence("MOVE: (5: turns 0, too)", () -> {
            MossSeats x = CHECK.with(DUEL);
            CHECK.refused("no turns", x, 5, () -> x.moveOf(0, 1, 0));
            CHECK.outside(5, turns -> CHECK.refused(turns + " turns", x, 5, () -> x.moveOf(0, 1, turns)));
            CHECK.good("1", x, x.moveOf(0, 1, 1), 2);
            CHECK.good("4", x, x.moveOf(0, 1, 4), 0);
            CHECK.refused("one and himself", x, 5, () -> x.moveOf(1, 1, 1));
        });
        CHECK.sentence("MOVE: (2)", () -> {
            MossSeats x = CHECK.with(DUEL);
            CHECK.outside(2, s -> {
                CHECK.refused("moveOf(" + s + ", 0, 1)", x, 2, () -> x.moveOf(s, 0, 1));
                CHECK.refused("moveOf(0, " + s + ", 1)", x, 2, () -> x.moveOf(0, s, 1));
                CHECK.refused("ahead of one and himself", x, 2, () -> x.moveOf(s, s, 1));
                CHECK.refused("ahead of the turns", x, 2, () -> x.moveOf(s, 0, 0));
            });
        });
        CHECK.sentence("MOVE: of all that are as good the first", () -> {
            MossSeats x = CHECK.with("matter p pace 0; matter q pace 0; sitter s mile 0 tall 50 for p; sitter t mile 0 tall 90 for q; news q size 1; news p size 30; news p size 30; news p size 29;");
            CHECK.good("the first of two", x, x.moveOf(0, 1, 1), 1);
            x.bring(1);
            CHECK.good("the other one then", x, x.moveOf(0, 1, 1), 2);
        });
        CHECK.sentence("MOVE: none comes last", () -> {
            MossSeats x = CHECK.with("matter p pace 0; matter q pace 0; matter r pace 0; sitter s mile 0 tall 50 for p; sitter t mile 0 tall 90 for q; news q size 1; news r size 1; news r size 2;");
            CHECK.good("what is as good as none", x, x.moveOf(0, 1, 1), 1);
            MossSeats round = CHECK.with("matter p pace 0; sitter s mile 0 tall 10 for p; sitter t mile 0 tall 10 for p; news p size 50;");
            CHECK.good("both sink alike", round, round.moveOf(0, 1, 1), 0);
        });
        CHECK.sentence("MOVE: (8: none)", () -> {
            MossSeats x = CHECK.with("matter p pace 0; matter q pace 0 clear 100; sitter s mile 0 tall 10 for p; sitter t mile 0 tall 90 for p; news p size 10; news q size 10;");
            CHECK.refused("none is better", x, 8, () -> x.moveOf(0, 1, 1));
            CHECK.good("not for the other one", x, x.moveOf(1, 0, 1), 0);
            x.bring(0);
            CHECK.refused("what CAME, what is SETTLED", x, 8, () -> x.moveOf(1, 0, 1));
            MossSeats none = CHECK.with("matter p pace 0; sitter s mile 0 tall 10 for p; sitter t mile 0 tall 90 for p;");
            CHECK.refused("there is none", none, 8, () -> none.moveOf(0, 1, 4));
            CHECK.refused("2 ahead of 8", none, 2, () -> none.moveOf(0, 2, 1));
            CHECK.refused("5 ahead of 8", none, 5, () -> none.moveOf(0, 1, 0));
        });
        CHECK.sentence("MOVE: by turns, the first first", () -> {
            MossSeats x = CHECK.with("matter p pace 0; sitter s mile 0 tall 90 for p; sitter t mile 0 tall 10 for p; news p size 50; news p size 50; news p size 100;");
            CHECK.good("he alone", x, x.moveOf(0, 1, 1), 2);
            CHECK.good("the other one brings none", x, x.moveOf(0, 1, 2), 2);
            CHECK.good("he has two turns", x, x.moveOf(0, 1, 3), 0);
            CHECK.good("he has two turns of four", x, x.moveOf(0, 1, 4), 0);
        });
        CHECK.sentence("MOVE: NEWS of a MATTER that is CLEAR by 99, not by 100", () -> {
            MossSeats x = CHECK.with("matter p pace 0; matter q pace 0 clear 100; matter r pace 0 clear 99; sitter s mile 0 tall 90 for p; sitter t mile 0 tall 10 for p; news q size 1; news r size 1;");
            CHECK.good("99", x, x.moveOf(0, 1, 1), 1);
            x.bring(1);
            CHECK.refused("none is left", x, 8, () -> x.moveOf(0, 1, 1));
        });
        CHECK.sentence("GAME, MOVE: of six MATTERS the last one, too", () -> {
            MossSeats x = CHECK.with(SIX.replace("matter f pace 1", "matter f pace 3 clear 40") + "sitter s mile 0 tall 50 for f; sitter t mile 0 tall 50 for a; news a size 1; news f size 10;");
            CHECK.good("now", x, x.game(0, 1, 0), 20);
            CHECK.good("a turn", x, x.game(0, 1, 1), 25);
            CHECK.good("its NEWS", x, x.moveOf(0, 1, 1), 1);
        });
        CHECK.sentence("MOVE: of eight NEWS the last", () -> {
            MossSeats x = CHECK.with("matter p pace 0; matter q pace 0; sitter s mile 0 tall 50 for p; sitter t mile 0 tall 90 for q;" + "news p size 1;".repeat(7) + "news p size 3;");
            CHECK.good("the eighth", x, x.moveOf(0, 1, 1), 7);
        });
    }

    private static void longAndShare() {
        CHECK.sentence("LONG of n (0 to 12)", () -> {
            MossSeats x = new MossSeats();
            CHECK.fraction("0", x, x.lasts(0), 1, 1);
            CHECK.fraction("1", x, x.lasts(1), 3, 4);
            CHECK.fraction("12", x, x.lasts(12), 531441, 16777216);
            CHECK.outside(13, n -> CHECK.refusedNo("lasts(" + n + ")", x, 5, () -> x.lasts(n)));
        });
        CHECK.sentence("LONG: by ODDS sixteenths, none and all of them", () -> {
            MossSeats x = new MossSeats();
            x.rule(0);
            CHECK.fraction("never over", x, x.lasts(12), 1, 1);
            x.rule(16);
            CHECK.fraction("over at once", x, x.lasts(1), 0, 1);
            CHECK.fraction("for 0 DAYS, or more", x, x.lasts(0), 1, 1);
        });
        CHECK.sentence("Promise 49: (2)", () -> {
            MossSeats x = CHECK.with(Check.WOOD);
            CHECK.outside(4, s -> CHECK.refusedNo("share(" + s + ")", x, 2, () -> x.share(s)));
            MossSeats none = new MossSeats();
            CHECK.refusedNo("nobody: 2 ahead of 8", none, 2, () -> none.share(0));
        });
        CHECK.sentence("Promise 49: (8: all are DOWN)", () -> {
            MossSeats x = CHECK.with("matter a pace 0 clear 90; matter b pace 0 clear 100; sitter s mile 0 tall 10 for a; sitter t mile 0 tall 99 for b;");
            CHECK.fraction("one is not", x, x.share(0), 1, 1);
            CHECK.fraction("the other one has no part", x, x.share(1), 0, 1);
            x.hear(0, 1);
            x.bring(0);
            CHECK.refusedNo("by rounding", x, 8, () -> x.share(0));
            CHECK.refusedNo("by rounding, the other one", x, 8, () -> x.share(1));
            CHECK.refusedNo("2 ahead of 8", x, 2, () -> x.share(2));
        });
        CHECK.sentence("Promise 49: the part of all HEIGHTS that a SITTER has", () -> {
            MossSeats x = CHECK.with("matter a pace 0; sitter s mile 0 tall 99 for a;sitter t mile 0 tall 99 for a;sitter u mile 0 tall 99 for a;sitter v mile 0 tall 99 for a;"
                + "sitter w mile 0 tall 99 for a;sitter x mile 0 tall 99 for a;sitter y mile 0 tall 98 for a;");
            CHECK.fraction("of seven", x, x.share(6), 49, 346);
        });
    }
}

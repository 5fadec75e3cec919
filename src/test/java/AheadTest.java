/** Promises 29 to 43: DAYS ahead, LEAST, rings, orders, the round, what one sits out, laws. */
public final class AheadTest {
    private static final Check CHECK = new Check("AheadTest");

    public static void main(String[] args) {
        promise29ClearIn();
        promise30HeightIn();
        promise31DownIn();
        promise32And33Least();
        promise34Ring();
        promise35And36Loosen();
        promise37And38Order();
        promise39Round();
        promise40Out();
        promise41Ask();
        promise42Laws();
        promise43LawOf();
        CHECK.finish();
    }

    private static void promise29ClearIn() {
        MossSeats x = CHECK.with(Check.WOOD);
        CHECK.due("now", x.clearIn(2, 0), 0);
        CHECK.due("in 3 DAYS", x.clearIn(2, 3), 45);
        CHECK.due("100 at most", x.clearIn(2, 7), 100);
        CHECK.due("STUCK", x.clearIn(0, 200), 20);
        x.hurry(1, 20);
        CHECK.due("STUCK for two DAYS", x.clearIn(0, 2), 20);
        CHECK.due("then not", x.clearIn(0, 3), 30);
        CHECK.due("nothing changes by it", x.matter(0, 0), 20);
        CHECK.due("nor the DAY", x.many(5), 0);
        CHECK.refused("in 201 DAYS", x, 5, () -> x.clearIn(0, 201));
        CHECK.refused("in -1 DAYS", x, 5, () -> x.clearIn(0, -1));
        CHECK.refused("no such MATTER", x, 2, () -> x.clearIn(4, 201));
        CHECK.refused("no such MATTER below", x, 2, () -> x.clearIn(-1, 0));
        MossSeats late = CHECK.with("matter a pace 1; matter b pace 0 clear 100;");
        for (int i = 0; i < 10; i++) {
            late.day(999);
        }
        late.day(9);
        late.crisis(0, 100);
        CHECK.due("beyond DAY 9,999, too", late.clearIn(0, 60), 60);
    }

    private static void promise30HeightIn() {
        MossSeats x = CHECK.with(Check.WOOD);
        CHECK.due("now", x.heightIn(2, 0), 80);
        CHECK.due("in a DAY", x.heightIn(2, 1), 68);
        CHECK.due("rounded down", x.heightIn(1, 200), 3);
        CHECK.due("DOWN", x.heightIn(2, 7), 0);
        x.turn(1, 2);
        CHECK.due("9 times 85 by 100", x.heightIn(1, 1), 7);
        CHECK.due("nothing changes by it", x.sitter(2, 4), 80);
        CHECK.refused("in 201 DAYS", x, 5, () -> x.heightIn(0, 201));
        CHECK.refused("in -1 DAYS", x, 5, () -> x.heightIn(0, -1));
        CHECK.refused("no such SITTER", x, 2, () -> x.heightIn(4, 201));
        CHECK.refused("no such SITTER below", x, 2, () -> x.heightIn(-1, 0));
    }

    private static void promise31DownIn() {
        MossSeats x = CHECK.with(Check.WOOD);
        CHECK.due("in 7", x.downIn(2), 7);
        CHECK.due("in 0", x.downIn(3), 0);
        CHECK.refused("never", x, 8, () -> x.downIn(0));
        CHECK.due("nothing changes by it", x.sitter(2, 4), 80);
        CHECK.refused("no such SITTER", x, 2, () -> x.downIn(4));
        CHECK.refused("no such SITTER below", x, 2, () -> x.downIn(-1));
        MossSeats y = CHECK.with("matter a pace 1; matter b pace 1; hold a by b; sitter s mile 0 tall 99 for a;"
            + "sitter t mile 0 tall 1 for a; sitter u mile 0 tall 99 for b;");
        CHECK.due("99 times 1 by 100 is DOWN", y.downIn(2), 99);
        CHECK.due("a is STUCK for 100 DAYS", y.downIn(0), 199);
        CHECK.due("1 times 99 by 100 is DOWN", y.downIn(1), 101);
        MossSeats z = CHECK.with("matter a pace 1; matter b pace 1; matter c pace 20 clear 99; hold a by b; hold b by c;"
            + "sitter s mile 0 tall 99 for a; sitter t mile 0 tall 99 for b; sitter u mile 0 tall 50 for b;");
        CHECK.due("STUCK for a DAY", z.downIn(1), 100);
        CHECK.due("50 times 2 by 100 is not DOWN", z.downIn(2), 100);
        CHECK.due("in just 200", z.downIn(0), 200);
        z.crisis(2, 100);
        CHECK.refused("later than in 200 DAYS", z, 8, () -> z.downIn(0));
    }

    private static void promise32And33Least() {
        MossSeats x = CHECK.with(Check.WOOD);
        int[] sets = {0, 1, 2, 3, 4, 8, 15};
        int[] many = {0, 1, 1, 2, 1, 0, 3};
        int[] set = {0, 4, 1, 5, 8, 0, 13};
        for (int i = 0; i < sets.length; i++) {
            CHECK.due("least(" + sets[i] + ")", x.least(sets[i]), many[i]);
            CHECK.due("least STATUS", x.status(), 0);
            CHECK.due("leastSet(" + sets[i] + ")", x.leastSet(sets[i]), set[i]);
            CHECK.due("leastSet STATUS", x.status(), 0);
        }
        CHECK.due("nothing changes by it", x.many(9), 0);
        CHECK.refused("least of what there is none of", x, 5, () -> x.least(16));
        CHECK.refused("leastSet of what there is none of", x, 5, () -> x.leastSet(16));
        CHECK.refused("least(-1)", x, 5, () -> x.least(-1));
        CHECK.refused("leastSet(-1)", x, 5, () -> x.leastSet(-1));
        x.hear(1, 28);
        x.hear(1, 40);
        CHECK.due("the fewest, of these the least number", x.leastSet(2), 1);
        x.bring(0);
        CHECK.due("SIZE 30 CAME: he is DOWN", x.least(2), 0);
        x.crisis(1, 60);
        CHECK.due("what CAME counts no more", x.leastSet(2), 32 + 16);
        CHECK.due("two of them", x.least(2), 2);
        x.crisis(1, 30);
        CHECK.refused("by none", x, 8, () -> x.least(2));
        CHECK.refused("by none, the set", x, 8, () -> x.leastSet(2));
        CHECK.refused("all, by none", x, 8, () -> x.leastSet(15));
        MossSeats y = CHECK.with("matter a pace 1; sitter s mile 0 tall 9 for a; news a size 50; news a size 39; news a size 50; news a size 88;"
            + "news a size 1;");
        CHECK.due("of sets as few the least number", y.leastSet(1), 3);
        CHECK.due("two", y.least(1), 2);
        y.hear(0, 89);
        CHECK.due("one is fewer, though its number is more", y.leastSet(1), 32);
        CHECK.due("one", y.least(1), 1);
        MossSeats z = CHECK.with("matter a pace 1; matter b pace 1; hold a by b; sitter s mile 0 tall 99 for a; news b size 100; news a size 60; news a size 40;");
        CHECK.due("STUCK or not", z.leastSet(1), 6);
    }

    private static void promise34Ring() {
        MossSeats x = CHECK.with("matter a pace 1; matter b pace 1; matter c pace 1; matter d pace 1; matter e pace 1; matter f pace 1;");
        CHECK.refused("no HOLDS", x, 8, x::ring);
        int[][] holds = {{0, 1}, {1, 2}, {2, 3}, {3, 4}, {4, 5}};
        for (int[] hold : holds) {
            x.bind(hold[0], hold[1]);
        }
        CHECK.refused("one behind the other is none", x, 8, x::ring);
        x.bind(0, 2);
        x.bind(1, 5);
        CHECK.refused("two ways are none", x, 8, x::ring);
        x.bind(5, 0);
        CHECK.due("f by a by b by f", x.ring(), 3);
        CHECK.due("ring STATUS", x.status(), 0);
        x.loose(6);
        CHECK.due("f by a by c by d by e by f", x.ring(), 5);
        x.loose(5);
        CHECK.due("all six", x.ring(), 6);
        x.bind(3, 2);
        CHECK.due("the shortest", x.ring(), 2);
        MossSeats y = CHECK.with("matter a pace 1 clear 100; matter b pace 1 clear 100; hold a by b; hold b by a;");
        CHECK.due("SETTLED or not", y.ring(), 2);
    }

    private static void promise35And36Loosen() {
        MossSeats x = new MossSeats();
        CHECK.due("nothing", x.loosen(), 0);
        CHECK.due("nothing, the set", x.loosenSet(), 0);
        CHECK.due("nothing, STATUS", x.status(), 0);
        MossSeats tree = CHECK.with("matter a pace 1; matter b pace 1; matter c pace 1; hold a by b; hold b by c; hold a by c;");
        CHECK.due("HOLDS without a RING", tree.loosen(), 0);
        CHECK.due("HOLDS without a RING, the set", tree.loosenSet(), 0);
        CHECK.due("HOLDS without a RING, STATUS", tree.status(), 0);
        MossSeats y = CHECK.with("matter a pace 1; matter b pace 1; matter c pace 1; matter d pace 1; hold a by d; hold a by b; hold b by c; hold c by a;");
        CHECK.due("one RING", y.loosen(), 1);
        CHECK.due("the least number", y.loosenSet(), 2);
        y.bind(c, b);
        CHECK.due("two RINGS, one HOLD of both", y.loosen(), 1);
        CHECK.due("that HOLD", y.loosenSet(), 4);
        y.bind(b, a);
        CHECK.due("three RINGS", y.loosen(), 2);
        CHECK.due("the least set of two", y.loosenSet(), 6);
        CHECK.due("it changes nothing", y.many(1), 6);
        y.loose(1);
        CHECK.due("without a by b", y.loosen(), 1);
        CHECK.due("b by c then", y.loosenSet(), 2);
        MossSeats z = CHECK.with("matter a pace 1; matter b pace 1; matter c pace 1; matter d pace 1; hold a by b; hold b by a; hold c by d; hold d by c;"
            + "hold a by c; hold c by a; hold b by d; hold d by b; hold a by d; hold d by a;");
        CHECK.due("five pairs", z.loosen(), 5);
        CHECK.due("five pairs, the set", z.loosenSet(), Integer.parseInt("0101010101", 2));
    }

    private static final int a = 0;
    private static final int b = 1;
    private static final int c = 2;

    private static void order(MossSeats x, int... due) {
        for (int k = 0; k < due.length; k++) {
            CHECK.due("orderAt(" + k + ")", x.orderAt(k), due[k]);
            CHECK.due("orderAt STATUS", x.status(), 0);
        }
        CHECK.refused("no such", x, 8, () -> x.orderAt(due.length));
        CHECK.refused("no such below", x, 8, () -> x.orderAt(-1));
    }

    private static void promise37And38Order() {
        MossSeats x = CHECK.with(Check.WOOD);
        CHECK.refused("one never is", x, 8, x::waiting);
        CHECK.refused("no ORDER", x, 8, () -> x.orderAt(0));
        x.hurry(1, 5);
        CHECK.due("waiting()", x.waiting(), 77);
        CHECK.due("waiting STATUS", x.status(), 0);
        order(x, 3, 1, 2, 0);
        CHECK.due("it changes nothing", x.matter(0, 0), 20);
        x.bind(1, 2);
        CHECK.due("another HOLD", x.waiting(), 7 * 2 + 15 * 3 + 23);
        order(x, 3, 2, 1, 0);
        x.bind(2, 0);
        CHECK.refused("a RING", x, 8, x::waiting);
        CHECK.refused("a RING, no ORDER", x, 8, () -> x.orderAt(0));
        MossSeats none = new MossSeats();
        CHECK.due("no MATTERS", none.waiting(), 0);
        CHECK.refused("no MATTERS, no first", none, 8, () -> none.orderAt(0));
        MossSeats even = CHECK.with("matter d pace 10; matter e pace 10; matter f pace 0 clear 100; matter g pace 20;"
            + "sitter s mile 0 tall 1 for d; sitter t mile 0 tall 1 for e; sitter u mile 0 tall 1 for g weight 2;");
        CHECK.due("of several the same", even.waiting(), 10 + 15 + 25);
        // a settled one costs nothing anywhere, so it comes where the order is the first by numbers
        order(even, 2, 3, 0, 1);
    }

    private static void promise39Round() {
        MossSeats x = CHECK.with(Check.WOOD);
        CHECK.due("round(5)", x.round(5), 15 + 15);
        CHECK.due("round STATUS", x.status(), 0);
        CHECK.due("round(20)", x.round(20), 15);
        CHECK.due("round(0)", x.round(0), 5 + 20 + 20);
        CHECK.due("round(59)", x.round(59), 39 * 3 + 15);
        CHECK.refused("MILE 60", x, 5, () -> x.round(60));
        CHECK.refused("MILE -1", x, 5, () -> x.round(-1));
        MossSeats y = CHECK.with("matter m pace 1; sitter a mile 9 tall 9 for m; sitter b mile 30 tall 9 for m; sitter c mile 31 tall 9 for m;"
            + "sitter d mile 32 tall 9 for m; sitter e mile 33 tall 9 for m weight 9;");
        CHECK.due("the near one waits", y.round(20), 10 + 11 + 12 + 13 + 13 + 24);
        CHECK.due("the near one first", y.round(10), 1 + 22 + 23 + 24 + 25);
        y.hear(0, 100);
        y.bring(0);
        CHECK.due("all are DOWN", y.round(0), 0);
        MossSeats none = new MossSeats();
        CHECK.due("nobody", none.round(9), 0);
        CHECK.due("two of a mile, then back, then three far off", CHECK.with("matter m pace 1; sitter a mile 0 tall 9 for m; sitter b mile 9 tall 9 for m; sitter c mile 12 tall 9 for m;"
            + "sitter d mile 59 tall 9 for m; sitter e mile 59 tall 9 for m; sitter f mile 59 tall 9 for m; sitter g mile 12 tall 9 for m;").round(10),
            2 + 2 + 5 + 14 + 73 * 3);
    }

    private static void promise40Out() {
        MossSeats x = CHECK.with("matter p pace 10; matter q pace 5; matter r pace 10 clear 50; matter s pace 0; sitter t mile 0 tall 10 for q;");
        CHECK.tray(x, 0, 0, 10, 2, 8, 3, 7);
        CHECK.due("by none: all", x.out(0, 0, 0), 15);
        CHECK.due("by one", x.out(0, 0, 1), 11);
        CHECK.due("out STATUS", x.status(), 0);
        CHECK.due("by two", x.out(0, 0, 2), 1);
        CHECK.due("by three", x.out(0, 0, 3), 1);
        CHECK.tray(x, 1, 40, 0, 5, 7);
        CHECK.due("as 7.5 is 7", x.out(0, 1, 2), 2);
        CHECK.tray(x, 1, 40, 0, 5, 8);
        CHECK.due("none", x.out(0, 1, 2), 0);
        CHECK.due("none, STATUS", x.status(), 0);
        x.bind(0, 1);
        CHECK.due("as days go by, held", x.out(0, 0, 2), 0);
        CHECK.refused("no such TRAY", x, 1, () -> x.out(9, 4, 0));
        CHECK.refused("no such TRAY below", x, 1, () -> x.out(9, -1, 0));
        CHECK.refused("no such SITTER", x, 2, () -> x.out(1, 3, 0));
        CHECK.refused("no such SITTER below", x, 2, () -> x.out(-1, 0, 0));
        twosRefused("out", x, (tray, n) -> x.out(0, tray, n));
    }

    private interface ByTwos {
        int call(int tray, int n);
    }

    /** What all calls by twos refuse: tray 3 is missing, the others are laid here. */
    private static void twosRefused(String what, MossSeats x, ByTwos by) {
        CHECK.refused(what + ": MISSING", x, 3, () -> by.call(3, 99));
        CHECK.tray(x, 2, 0, 10, 5, 1, 7);
        CHECK.refused(what + ": too few numbers", x, 4, () -> by.call(2, 3));
        CHECK.refused(what + ": too few numbers by far", x, 4, () -> by.call(2, Integer.MAX_VALUE));
        CHECK.refused(what + ": n below 0", x, 5, () -> by.call(2, -1));
        CHECK.refused(what + ": n below 0 by far", x, 5, () -> by.call(2, Integer.MIN_VALUE));
        x.tray(2, 3, 60);
        CHECK.refused(what + ": n above 20", x, 5, () -> by.call(2, 21));
        by.call(2, 20);
        CHECK.due(what + ": 20 twos can be", x.status() != 5, true);
        x.write(2, 38, 41);
        CHECK.refused(what + ": DAYS 41 in the 20th two", x, 5, () -> by.call(2, 20));
        x.write(2, 38, 40);
        x.write(2, 39, 100);
        CHECK.refused(what + ": HEIGHT 100 in the 20th two", x, 5, () -> by.call(2, 20));
        by.call(2, 19);
        CHECK.due(what + ": numbers behind are not looked at", x.status() != 5, true);
        for (long wrong : new long[] {-1, Long.MIN_VALUE, Long.MAX_VALUE, 1L << 32}) {
            CHECK.tray(x, 2, wrong, 0);
            CHECK.refused(what + ": DAYS " + wrong, x, 5, () -> by.call(2, 1));
            CHECK.tray(x, 2, 0, wrong);
            CHECK.refused(what + ": HEIGHT " + wrong, x, 5, () -> by.call(2, 1));
        }
        CHECK.tray(x, 2, 40, 99);
        by.call(2, 1);
        CHECK.due(what + ": 40 and 99 can be", x.status() != 5, true);
    }

    private static void promise41Ask() {
        MossSeats x = CHECK.with("matter p pace 1; matter q pace 2; matter r pace 4; matter s pace 0; sitter t mile 0 tall 10 for q;");
        x.tray(0, 3, 8);
        // heights of 1: 9, 9, 9, 10; of 3: 9, 9, 8, 10; of 6: 9, 8, 7, 10
        CHECK.due("all are parted in 6 DAYS", x.ask(0, 0, 0), 6);
        CHECK.due("ask STATUS", x.status(), 0);
        CHECK.tray(x, 0, 1, 9);
        CHECK.due("without s", x.ask(0, 0, 1), 6);
        CHECK.tray(x, 0, 3, 9);
        CHECK.due("p and q alone", x.ask(0, 0, 1), 6);
        CHECK.tray(x, 0, 3, 8);
        CHECK.refused("r alone", x, 8, () -> x.ask(0, 0, 1));
        CHECK.tray(x, 0, 3, 7);
        CHECK.refused("none", x, 8, () -> x.ask(0, 0, 1));
        MossSeats same = CHECK.with("matter p pace 0 clear 5; matter q pace 0 clear 6; matter r pace 20 clear 99; sitter t mile 0 tall 1 for q;");
        same.tray(0, 3, 0);
        CHECK.due("parted by no DAYS: the least", same.ask(0, 0, 0), 0);
        MossSeats late = CHECK.with("matter p pace 1; matter q pace 1; matter r pace 1; hold q by r; sitter t mile 0 tall 99 for p;");
        late.tray(0, 3, 0);
        late.hear(2, 60);
        late.bring(0);
        CHECK.due("each for itself from 1 on", late.ask(0, 0, 0), 1);
        MossSeats two = CHECK.with("matter p pace 2; matter q pace 0; sitter t mile 0 tall 5 for p; matter r pace 20 clear 100; matter u pace 0;");
        two.tray(0, 3, 0);
        CHECK.due("three are alike now, two from 1 on", two.ask(0, 0, 0), 1);
        CHECK.refused("no such TRAY", x, 1, () -> x.ask(9, 4, 0));
        CHECK.refused("no such TRAY below", x, 1, () -> x.ask(9, -1, 0));
        CHECK.refused("no such SITTER", x, 2, () -> x.ask(1, 3, 0));
        CHECK.refused("no such SITTER below", x, 2, () -> x.ask(-1, 0, 0));
        twosRefused("ask", x, (tray, n) -> x.ask(0, tray, n));
        MossSeats edge = CHECK.with("matter p pace 1 clear 0; matter q pace 0; sitter t mile 0 tall 2 for p;");
        edge.tray(0, 3, 2);
        CHECK.due("2 times 99 by 100 is 1", edge.ask(0, 0, 0), 1);
        MossSeats held = CHECK.with("matter p pace 1; matter q pace 0; matter r pace 1 clear 61; hold p by r; sitter t mile 0 tall 99 for p;");
        CHECK.tray(held, 0, 0, 99);
        CHECK.due("parted on the 40th DAY", held.ask(0, 0, 1), 40);
        MossSeats six = CHECK.with("matter p pace 0; matter q pace 0; matter r pace 0; matter u pace 0; matter v pace 0; matter w pace 10; sitter t mile 0 tall 4 for p;");
        six.tray(0, 3, 0);
        CHECK.due("six are alike now, five in 1", six.ask(0, 0, 0), 1);
        held.crisis(2, 1);
        CHECK.due("parted on the 41st DAY is too late", held.ask(0, 0, 1), 0);
    }

    private static void promise42Laws() {
        MossSeats x = new MossSeats();
        x.tray(0, 3, 60);
        CHECK.due("all couples", x.laws(0, 0), 2079);
        CHECK.due("laws STATUS", x.status(), 0);
        CHECK.tray(x, 0, 0, 50, 1, 45, 9, 5);
        CHECK.due("TALL 50", x.laws(0, 1), 21);
        CHECK.due("TALL 50, PACE 9 or 10", x.laws(0, 2), 2);
        CHECK.due("TALL 50, PACE 10", x.laws(0, 3), 1);
        CHECK.tray(x, 0, 0, 50, 0, 51);
        CHECK.due("none fits", x.laws(0, 2), 0);
        CHECK.due("none fits, STATUS", x.status(), 0);
        CHECK.tray(x, 0, 40, 0);
        // PACE 3 and more: all; PACE 2 leaves a fifth: TALL 1 to 4; PACE 1 leaves three fifths: TALL 1
        CHECK.due("0 in 40 DAYS", x.laws(0, 1), 99 * 18 + 4 + 1);
        CHECK.refused("no such TRAY", x, 1, () -> x.laws(4, 0));
        CHECK.refused("no such TRAY below", x, 1, () -> x.laws(-1, 0));
        twosRefused("laws", x, x::laws);
    }

    private static void promise43LawOf() {
        MossSeats x = new MossSeats();
        x.tray(0, 3, 4);
        CHECK.due("the first of all: TALL", x.lawOf(0, 0, 0), 1);
        CHECK.due("the first of all: PACE", x.lawOf(0, 0, 1), 0);
        CHECK.tray(x, 0, 4, 20, 10, 6);
        CHECK.due("just one: TALL", x.lawOf(0, 2, 0), 30);
        CHECK.due("just one: PACE", x.lawOf(0, 2, 1), 8);
        CHECK.due("lawOf STATUS", x.status(), 0);
        CHECK.tray(x, 0, 1, 9, 40, 0);
        CHECK.due("of several TALL first", x.lawOf(0, 2, 0), 10);
        CHECK.due("of several then PACE", x.lawOf(0, 2, 1), 3);
        CHECK.tray(x, 0, 0, 99, 5, 0);
        CHECK.due("TALL 99", x.lawOf(0, 2, 0), 99);
        CHECK.due("PACE 20", x.lawOf(0, 2, 1), 20);
        CHECK.tray(x, 0, 0, 0);
        CHECK.refused("none fits", x, 8, () -> x.lawOf(0, 1, 0));
        CHECK.refused("none fits, 1", x, 8, () -> x.lawOf(0, 1, 1));
        CHECK.refused("what 2", x, 5, () -> x.lawOf(0, 1, 2));
        CHECK.refused("what -1", x, 5, () -> x.lawOf(0, 1, -1));
        CHECK.refused("too few numbers ahead of what 2", x, 4, () -> x.lawOf(0, 2, 2));
        CHECK.refused("no such TRAY", x, 1, () -> x.lawOf(4, 0, 2));
        CHECK.refused("no such TRAY below", x, 1, () -> x.lawOf(-1, 0, 0));
        twosRefused("lawOf", x, (tray, n) -> x.lawOf(tray, n, 0));
    }
}

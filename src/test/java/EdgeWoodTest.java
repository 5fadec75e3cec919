/** The boundary cases of part 2, of what is there and what is done (promises 13 to 28): a test for each sentence. */
public final class EdgeWoodTest {
    private static final Check CHECK = new Check("EdgeWoodTest");

    public static void main(String[] args) {
        clearness();
        heights();
        daysGoBy();
        newsAndCrises();
        manyAndMatter();
        loads();
        holdSitterNews();
        copyHeights();
        day();
        bring();
        crisis();
        turn();
        sit();
        hear();
        bind();
        loose();
        hurryAndRule();
        CHECK.finish();
    }

    private static void clearness() {
        CHECK.sentence("SETTLED is a MATTER that is CLEAR by 100", () -> {
            MossSeats x = CHECK.with("matter a pace 1 clear 99; matter b pace 1 clear 100; matter c pace 1;");
            CHECK.good("100, not 99", x, x.many(6), 2);
            x.day(1);
            CHECK.good("99 and 1", x, x.many(6), 3);
            x.crisis(1, 1);
            CHECK.good("99 again", x, x.many(6), 1);
        });
        CHECK.sentence("STUCK is one that is HELD by one that is not SETTLED", () -> {
            MossSeats x = CHECK.with("matter a pace 1; matter b pace 1 clear 99; matter c pace 1 clear 100; hold a by b; hold b by c;");
            CHECK.good("by 99, not by 100", x, x.many(7), 1);
            x.bind(1, 0);
            CHECK.good("by one of two", x, x.many(7), 3);
            x.crisis(2, 1);
            CHECK.good("by both", x, x.many(7), 3);
            CHECK.good("HELD by none", x, x.matter(2, 2), 0);
        });
        CHECK.sentence("STUCK: (it is not SETTLED itself)", () -> {
            MossSeats x = CHECK.with("matter a pace 1 clear 100; matter b pace 1 clear 0; hold a by b; matter c pace 1 clear 99; hold c by b;");
            CHECK.good("not what is SETTLED", x, x.many(7), 4);
            x.crisis(0, 1);
            CHECK.good("but what isn't", x, x.many(7), 5);
        });
    }

    private static int height(int tall, int clear) {
        return CHECK.with("matter a pace 0 clear " + clear + "; sitter s mile 0 tall " + tall + " for a;").sitter(0, 4);
    }

    private static void heights() {
        CHECK.sentence("HEIGHT ... by 100, rounded down", () -> {
            int[][] due = {{1, 0, 1}, {1, 1, 0}, {1, 99, 0}, {99, 0, 99}, {99, 1, 98}, {99, 98, 1}, {99, 99, 0}, {99, 100, 0}, {50, 98, 1},
                {50, 99, 0}, {51, 98, 1}, {49, 98, 0}, {10, 85, 1}, {10, 91, 0}, {10, 90, 1}, {2, 50, 1}, {2, 51, 0}, {7, 30, 4}};
            for (int[] d : due) {
                CHECK.due("TALL " + d[0] + ", CLEAR " + d[1], height(d[0], d[1]), d[2]);
            }
        });
        CHECK.sentence("DOWN is who has HEIGHT 0", () -> {
            MossSeats x = CHECK.with("matter a pace 0 clear 90; sitter s mile 0 tall 9 for a; sitter t mile 0 tall 10 for a; sitter u mile 0 tall 1 for a;");
            CHECK.good("0.9 is DOWN, 1 is not", x, x.many(8), 5);
            x.crisis(0, 90);
            CHECK.good("nobody", x, x.many(8), 0);
            x.hear(0, 100);
            x.bring(0);
            CHECK.good("all", x, x.many(8), 7);
        });
    }

    private static MossSeats late(String text, int day) {
        MossSeats x = CHECK.with(text);
        for (int left = day; left > 0; left -= 999) {
            x.day(Math.min(999, left));
        }
        CHECK.due("the DAY that it is", x.many(5), day);
        return x;
    }

    private static void daysGoBy() {
        CHECK.sentence("A DAY goes by (to 9,999)", () -> {
            MossSeats x = late("matter a pace 1;", 9998);
            CHECK.good("the last one", x, x.day(1), 0);
            CHECK.good("it is", x, x.many(5), 9999);
            CHECK.refused("one more", x, 7, () -> x.day(1));
        });
        CHECK.sentence("each MATTER that is neither SETTLED nor STUCK is CLEARER by its PACE", () -> {
            MossSeats x = CHECK.with("matter a pace 0 clear 5; matter b pace 20 clear 5; matter c pace 1 clear 98; matter d pace 3; matter e pace 3;"
                + "matter f pace 0 clear 100; hold d by a; hold e by f;");
            x.day(1);
            int[] due = {5, 25, 99, 0, 3, 100};
            for (int m = 0; m < 6; m++) {
                CHECK.good("MATTER " + m, x, x.matter(m, 0), due[m]);
            }
        });
        CHECK.sentence("(as all is when the DAY begins)", () -> {
            MossSeats x = CHECK.with("matter a pace 5; matter b pace 5 clear 95; matter c pace 5 clear 95; hold a by b; hold b by c;");
            x.day(1);
            CHECK.good("c is SETTLED by it", x, x.matter(2, 0), 100);
            CHECK.good("b was STUCK, though it stands ahead", x, x.matter(1, 0), 95);
            x.day(1);
            CHECK.good("b is SETTLED then", x, x.matter(1, 0), 100);
            CHECK.good("a was STUCK", x, x.matter(0, 0), 0);
            MossSeats y = CHECK.with("matter c pace 5 clear 95; matter b pace 5 clear 95; hold b by c;");
            y.day(1);
            CHECK.good("b was STUCK, though it stands behind", y, y.matter(1, 0), 95);
        });
        CHECK.sentence("A DAY: (100 at most)", () -> {
            MossSeats x = CHECK.with("matter a pace 20 clear 99; matter b pace 20 clear 80; matter c pace 20 clear 81;");
            x.day(1);
            for (int m = 0; m < 3; m++) {
                CHECK.good("MATTER " + m, x, x.matter(m, 0), 100);
            }
            x.day(999);
            CHECK.good("and stays so", x, x.matter(0, 0), 100);
        });
    }

    private static void newsAndCrises() {
        CHECK.sentence("BRING: its MATTER is CLEARER by its SIZE (100 at most)", () -> {
            MossSeats x = CHECK.with("matter a pace 0 clear 98; matter b pace 0; news a size 1; news a size 2; news b size 100;");
            CHECK.good("99", x, x.bring(0), 99);
            CHECK.good("101 is 100", x, x.bring(1), 100);
            CHECK.good("just 100", x, x.bring(2), 100);
        });
        CHECK.sentence("BRING: STUCK or not", () -> {
            MossSeats x = CHECK.with("matter a pace 1; matter b pace 0; hold a by b; news a size 9;");
            CHECK.good("STUCK", x, x.many(7), 1);
            CHECK.good("clearer", x, x.bring(0), 9);
        });
        CHECK.sentence("BRING: (not of a MATTER that is SETTLED)", () -> {
            MossSeats x = CHECK.with("matter a pace 0 clear 100; news a size 9;");
            CHECK.refused("SETTLED", x, 9, () -> x.bring(0));
            CHECK.good("it did not come", x, x.news(0, 2), 0);
            x.crisis(0, 1);
            CHECK.good("99 can be", x, x.bring(0), 100);
        });
        CHECK.sentence("BRING: (not a NEWS that CAME)", () -> {
            MossSeats x = CHECK.with("matter a pace 0; news a size 9; news a size 9;");
            CHECK.good("once", x, x.bring(0), 9);
            CHECK.refused("twice", x, 9, () -> x.bring(0));
            CHECK.good("another one of this SIZE", x, x.bring(1), 18);
        });
        CHECK.sentence("CRISIS of a MATTER by n: it is less CLEAR by n (0 at least)", () -> {
            MossSeats x = CHECK.with("matter a pace 0 clear 100; matter b pace 0 clear 5; matter c pace 0 clear 5;");
            CHECK.good("all of it", x, x.crisis(0, 100), 0);
            CHECK.good("just 0", x, x.crisis(1, 5), 0);
            CHECK.good("below 0 is 0", x, x.crisis(2, 6), 0);
        });
        CHECK.sentence("TURN: a SITTER sits FOR another MATTER", () -> {
            MossSeats x = CHECK.with("matter a pace 0; matter b pace 0 clear 50; sitter s mile 0 tall 9 for a; sitter t mile 0 tall 9 for a;");
            CHECK.good("turn", x, x.turn(1, 1), 4);
            CHECK.good("he alone", x, x.matter(1, 3), 2);
            CHECK.good("the other one stays", x, x.matter(0, 3), 1);
        });
    }

    private static void manyAndMatter() {
        CHECK.sentence("Promise 13: (5)", () -> {
            MossSeats x = CHECK.with(Check.WOOD);
            CHECK.good("what 0", x, x.many(0), 4);
            CHECK.good("what 9", x, x.many(9), 0);
            CHECK.outside(10, what -> CHECK.refused("many(" + what + ")", x, 5, () -> x.many(what)));
        });
        CHECK.sentence("Promise 13: the sets (1 for MATTER 0 ..), to the last one", () -> {
            MossSeats x = CHECK.with("matter a pace 0 clear 100; matter b pace 0 clear 100; matter c pace 0 clear 100; matter d pace 0; matter e pace 0; matter f pace 0 clear 100;"
                + "hold d by e; hold e by d; hold b by d;" + "sitter s mile 0 tall 9 for a; sitter t mile 0 tall 9 for d; sitter u mile 0 tall 9 for d; sitter v mile 0 tall 9 for d;"
                + "sitter w mile 0 tall 9 for d; sitter x mile 0 tall 9 for d; sitter y mile 0 tall 9 for f;"
                + "news d size 1; news d size 1; news d size 1; news d size 1; news d size 1; news d size 1; news d size 1; news e size 100;");
            CHECK.good("SETTLED", x, x.many(6), 1 + 2 + 4 + 32);
            CHECK.good("STUCK", x, x.many(7), 8 + 16);
            CHECK.good("DOWN", x, x.many(8), 1 + 64);
            x.bring(7);
            x.bring(0);
            CHECK.good("CAME", x, x.many(9), 128 + 1);
            CHECK.good("STUCK no more", x, x.many(7), 0);
        });
        CHECK.sentence("Promise 14: (2)", () -> {
            MossSeats x = CHECK.with(Check.WOOD);
            CHECK.outside(4, m -> CHECK.refused("matter(" + m + ", 0)", x, 2, () -> x.matter(m, 0)));
            CHECK.refused("ahead of 5", x, 2, () -> x.matter(4, 5));
        });
        CHECK.sentence("Promise 14: (5)", () -> {
            MossSeats x = CHECK.with(Check.WOOD);
            CHECK.outside(5, what -> CHECK.refused("matter(3, " + what + ")", x, 5, () -> x.matter(3, what)));
        });
        CHECK.sentence("Promise 14: by which it is HELD (SETTLED or not)", () -> {
            MossSeats x = CHECK.with("matter a pace 0; matter b pace 0 clear 100; matter c pace 0; matter d pace 0; matter e pace 0; matter f pace 0 clear 100;"
                + "hold a by b; hold a by d; hold a by f; hold c by a;");
            CHECK.good("by three", x, x.matter(0, 2), 2 + 8 + 32);
            CHECK.good("by the first", x, x.matter(2, 2), 1);
            CHECK.good("by none", x, x.matter(1, 2), 0);
        });
        CHECK.sentence("Promise 14: the set of SITTERS who sit FOR it", () -> {
            MossSeats x = CHECK.with("matter a pace 0; matter b pace 0 clear 100; matter c pace 0;" + seven("b"));
            CHECK.good("all seven", x, x.matter(1, 3), 127);
            CHECK.good("none", x, x.matter(0, 3), 0);
            x.turn(6, 2);
            CHECK.good("the seventh", x, x.matter(2, 3), 64);
            CHECK.good("the others", x, x.matter(1, 3), 63);
        });
    }

    private static String seven(String matter) {
        StringBuilder text = new StringBuilder();
        for (int i = 0; i < 7; i++) {
            text.append("sitter ").append((char) ('s' + i)).append(" mile ").append(i).append(" tall ").append(10 + i).append(" for ").append(matter).append(';');
        }
        return text.toString();
    }

    private static void loads() {
        CHECK.sentence("LOAD: in how many DAYS it is SETTLED by its PACE alone", () -> {
            int[][] due = {{20, 0, 5}, {20, 1, 5}, {20, 80, 1}, {20, 81, 1}, {20, 79, 2}, {20, 99, 1}, {1, 0, 100}, {1, 99, 1}, {3, 0, 34}, {3, 1, 33}, {7, 2, 14}};
            for (int[] d : due) {
                MossSeats x = CHECK.with("matter a pace " + d[0] + " clear " + d[1] + ";");
                CHECK.good("PACE " + d[0] + ", CLEAR " + d[1], x, x.matter(0, 4), d[2]);
            }
        });
        CHECK.sentence("LOAD: not STUCK", () -> {
            MossSeats x = CHECK.with("matter a pace 10; matter b pace 0; hold a by b;");
            CHECK.good("STUCK", x, x.many(7), 1);
            CHECK.good("as if it were not", x, x.matter(0, 4), 10);
        });
        CHECK.sentence("LOAD: (0 if it is", () -> {
            MossSeats x = CHECK.with("matter a pace 10 clear 100; matter b pace 0 clear 100;");
            CHECK.good("SETTLED", x, x.matter(0, 4), 0);
            CHECK.good("SETTLED, without a PACE", x, x.matter(1, 4), 0);
        });
        CHECK.sentence("LOAD: without a PACE it never is) (8)", () -> {
            MossSeats x = CHECK.with("matter a pace 0 clear 99; matter b pace 0;");
            CHECK.refused("99", x, 8, () -> x.matter(0, 4));
            CHECK.refused("0", x, 8, () -> x.matter(1, 4));
        });
    }

    private static void holdSitterNews() {
        CHECK.sentence("Promise 15: (2)", () -> {
            MossSeats x = CHECK.with(Check.WOOD);
            CHECK.good("the last HOLD", x, x.hold(1, 1), 3);
            CHECK.outside(2, h -> CHECK.refused("hold(" + h + ", 0)", x, 2, () -> x.hold(h, 0)));
            CHECK.refused("ahead of 5", x, 2, () -> x.hold(2, 2));
        });
        CHECK.sentence("Promise 15: (5)", () -> {
            MossSeats x = CHECK.with(Check.WOOD);
            CHECK.outside(2, what -> CHECK.refused("hold(0, " + what + ")", x, 5, () -> x.hold(0, what)));
        });
        CHECK.sentence("Promise 16: (2)", () -> {
            MossSeats x = CHECK.with(Check.WOOD);
            CHECK.good("the last SITTER", x, x.sitter(3, 1), 3);
            CHECK.outside(4, s -> CHECK.refused("sitter(" + s + ", 0)", x, 2, () -> x.sitter(s, 0)));
            CHECK.refused("ahead of 5", x, 2, () -> x.sitter(4, 5));
        });
        CHECK.sentence("Promise 16: (5)", () -> {
            MossSeats x = CHECK.with(Check.WOOD);
            CHECK.outside(5, what -> CHECK.refused("sitter(0, " + what + ")", x, 5, () -> x.sitter(0, what)));
        });
        CHECK.sentence("Promise 17: (2)", () -> {
            MossSeats x = CHECK.with(Check.WOOD);
            CHECK.good("the last NEWS", x, x.news(3, 1), 100);
            CHECK.outside(4, n -> CHECK.refused("news(" + n + ", 0)", x, 2, () -> x.news(n, 0)));
            CHECK.refused("ahead of 5", x, 2, () -> x.news(4, 3));
        });
        CHECK.sentence("Promise 17: (5)", () -> {
            MossSeats x = CHECK.with(Check.WOOD);
            CHECK.outside(3, what -> CHECK.refused("news(0, " + what + ")", x, 5, () -> x.news(0, what)));
        });
        CHECK.sentence("Promise 17: 1 if it CAME, else 0", () -> {
            MossSeats x = CHECK.with("matter a pace 0;" + "news a size 1;".repeat(8));
            x.bring(7);
            for (int n = 0; n < 8; n++) {
                CHECK.good("NEWS " + n, x, x.news(n, 2), n == 7 ? 1 : 0);
            }
        });
    }

    private static void copyHeights() {
        CHECK.sentence("Promise 18: how many, none", () -> {
            MossSeats x = new MossSeats();
            x.tray(0, 0, 0);
            CHECK.good("to a TRAY without places", x, x.copyHeights(0), 0);
            x.tray(1, 0, 1);
            x.write(1, 0, 7);
            CHECK.good("to another one", x, x.copyHeights(1), 0);
            CHECK.good("nothing came", x, x.read(1, 0), 7);
        });
        CHECK.sentence("Promise 18: how many, seven", () -> {
            MossSeats x = CHECK.with("matter a pace 0;" + seven("a"));
            x.tray(3, 0, 7);
            CHECK.good("to just as many places", x, x.copyHeights(3), 7);
            for (int i = 0; i < 7; i++) {
                CHECK.good("HEIGHT " + i, x, x.read(3, i), 10 + i);
            }
        });
        CHECK.sentence("Promise 18: HEIGHTS of all SITTERS, none beyond", () -> {
            MossSeats x = CHECK.with(Check.WOOD);
            x.tray(0, 2, 6);
            x.write(0, 3, -7);
            x.write(0, 4, -8);
            CHECK.good("to more places", x, x.copyHeights(0), 4);
            CHECK.good("the last HEIGHT", x, x.read(0, 3), 0);
            CHECK.good("the place behind it", x, x.read(0, 4), -8);
        });
        CHECK.sentence("Promise 18: the tallest by each sort", () -> {
            MossSeats x = CHECK.with("matter a pace 0; sitter s mile 0 tall 99 for a;");
            for (int sort = 0; sort <= 3; sort++) {
                x.tray(0, sort, 1);
                CHECK.good("sort " + sort, x, x.copyHeights(0), 1);
                CHECK.good("by sort " + sort, x, x.read(0, 0), 99);
            }
        });
        CHECK.sentence("Promise 18: (1)", () -> {
            MossSeats x = CHECK.with(Check.WOOD);
            CHECK.outside(4, t -> CHECK.refused("TRAY " + t, x, 1, () -> x.copyHeights(t)));
        });
        CHECK.sentence("Promise 18: (3)", () -> {
            MossSeats x = CHECK.with(Check.WOOD);
            CHECK.refused("MISSING", x, 3, () -> x.copyHeights(0));
            MossSeats none = new MossSeats();
            CHECK.refused("MISSING, and nobody", none, 3, () -> none.copyHeights(3));
        });
        CHECK.sentence("Promise 18: (4)", () -> {
            MossSeats x = CHECK.with(Check.WOOD);
            x.tray(0, 2, 3);
            x.write(0, 0, 7);
            CHECK.refused("one too few", x, 4, () -> x.copyHeights(0));
            CHECK.good("none of them came", x, x.read(0, 0), 7);
            x.tray(0, 2, 0);
            CHECK.refused("no place", x, 4, () -> x.copyHeights(0));
        });
    }

    private static void day() {
        CHECK.sentence("Promise 19: so many DAYS (1 to 999)", () -> {
            MossSeats x = CHECK.with("matter a pace 1; sitter s mile 0 tall 9 for a;");
            CHECK.good("1", x, x.day(1), 0);
            CHECK.good("by one PACE", x, x.matter(0, 0), 1);
            CHECK.good("999", x, x.day(999), 1);
            CHECK.good("the DAY", x, x.many(5), 1000);
        });
        CHECK.sentence("Promise 19: (5)", () -> {
            MossSeats x = CHECK.with(Check.WOOD);
            for (int days : new int[] {0, -1, 1000, 65537, Integer.MIN_VALUE, Integer.MAX_VALUE}) {
                CHECK.refused("day(" + days + ")", x, 5, () -> x.day(days));
            }
        });
        CHECK.sentence("Promise 19: (7: above 9,999)", () -> {
            MossSeats x = late("matter a pace 1 clear 100; matter b pace 0; sitter s mile 0 tall 9 for b;", 9000);
            x.crisis(0, 100);
            CHECK.good("to it is not above it: 999", x, x.day(999), 0);
            MossSeats y = late("matter a pace 1;", 9001);
            CHECK.refused("999 are one too many", y, 7, () -> y.day(999));
            CHECK.good("as a whole: none went by", y, y.many(5), 9001);
            CHECK.good("998", y, y.day(998), 0);
            CHECK.refused("5 ahead of 7", y, 5, () -> y.day(1000));
        });
        CHECK.sentence("Promise 19: the set of SITTERS who are DOWN then", () -> {
            MossSeats x = CHECK.with("matter a pace 10 clear 80; matter b pace 10 clear 70; sitter s mile 0 tall 9 for a; sitter t mile 0 tall 10 for a; sitter u mile 0 tall 10 for b;");
            CHECK.good("one by rounding", x, x.day(1), 1);
            CHECK.good("two", x, x.day(1), 3);
            CHECK.good("three", x, x.day(1), 7);
        });
    }

    private static void bring() {
        CHECK.sentence("Promise 20: (2)", () -> {
            MossSeats x = CHECK.with(Check.WOOD);
            CHECK.outside(4, n -> CHECK.refused("bring(" + n + ")", x, 2, () -> x.bring(n)));
            CHECK.good("the last one", x, x.bring(3), 100);
        });
        CHECK.sentence("Promise 20: (9: it CAME, its MATTER is SETTLED)", () -> {
            MossSeats x = CHECK.with("matter a pace 0 clear 100; matter b pace 0; news a size 1; news b size 99; news b size 1; news b size 1;");
            CHECK.refused("SETTLED", x, 9, () -> x.bring(0));
            x.bring(1);
            CHECK.refused("CAME", x, 9, () -> x.bring(1));
            CHECK.good("99 is not SETTLED", x, x.bring(2), 100);
            CHECK.refused("by NEWS", x, 9, () -> x.bring(3));
            x.crisis(1, 1);
            CHECK.refused("what CAME does not come again", x, 9, () -> x.bring(2));
            CHECK.good("what did not come does", x, x.bring(3), 100);
        });
    }

    private static void crisis() {
        CHECK.sentence("Promise 21: CRISIS by so much (1 to 100)", () -> {
            MossSeats x = CHECK.with("matter a pace 0 clear 100; matter b pace 0 clear 100;");
            CHECK.good("1", x, x.crisis(0, 1), 99);
            CHECK.good("100", x, x.crisis(1, 100), 0);
        });
        CHECK.sentence("Promise 21: (2)", () -> {
            MossSeats x = CHECK.with(Check.WOOD);
            CHECK.outside(4, m -> CHECK.refused("crisis(" + m + ", 1)", x, 2, () -> x.crisis(m, 1)));
            CHECK.refused("ahead of 5", x, 2, () -> x.crisis(4, 0));
        });
        CHECK.sentence("Promise 21: (5)", () -> {
            MossSeats x = CHECK.with(Check.WOOD);
            for (int much : new int[] {0, -1, 101, 257, Integer.MIN_VALUE, Integer.MAX_VALUE}) {
                CHECK.refused("by " + much, x, 5, () -> x.crisis(3, much));
            }
            CHECK.refused("ahead of 9", x, 5, () -> x.crisis(2, 101));
        });
        CHECK.sentence("Promise 21: (9: it is CLEAR by 0)", () -> {
            MossSeats x = CHECK.with("matter a pace 0; matter b pace 0 clear 1;");
            CHECK.refused("0", x, 9, () -> x.crisis(0, 1));
            CHECK.good("1 can be", x, x.crisis(1, 100), 0);
            CHECK.refused("then not", x, 9, () -> x.crisis(1, 1));
        });
    }

    private static void turn() {
        CHECK.sentence("Promise 22: (2)", () -> {
            MossSeats x = CHECK.with(Check.WOOD);
            CHECK.outside(4, s -> CHECK.refused("turn(" + s + ", 1)", x, 2, () -> x.turn(s, 1)));
            CHECK.outside(4, m -> CHECK.refused("turn(0, " + m + ")", x, 2, () -> x.turn(0, m)));
        });
        CHECK.sentence("Promise 22: (9: he sits FOR it)", () -> {
            MossSeats x = CHECK.with(Check.WOOD);
            for (int s = 0; s < 4; s++) {
                int sitter = s;
                CHECK.refused("SITTER " + s, x, 9, () -> x.turn(sitter, sitter));
            }
            CHECK.good("to another one", x, x.turn(0, 3), 0);
            CHECK.refused("then to that", x, 9, () -> x.turn(0, 3));
            CHECK.good("and back", x, x.turn(0, 0), 40);
        });
    }

    private static void sit() {
        CHECK.sentence("Promise 23: a SITTER more, WEIGHT 1: his number", () -> {
            MossSeats x = CHECK.with("matter a pace 0 clear 50;");
            CHECK.good("the first", x, x.sit(3, 4, 0), 0);
            CHECK.good("the second", x, x.sit(5, 6, 0), 1);
            CHECK.good("WEIGHT", x, x.sitter(1, 3), 1);
            CHECK.good("MILE", x, x.sitter(1, 0), 5);
            CHECK.good("HEIGHT", x, x.sitter(1, 4), 3);
        });
        CHECK.sentence("Promise 23: WEIGHT 1, whoever sat there ahead", () -> {
            MossSeats x = CHECK.with("matter a pace 0; sitter s mile 0 tall 1 for a weight 9; sitter t mile 0 tall 1 for a weight 8;");
            Check.wood(x, "matter a pace 0; sitter s mile 0 tall 1 for a weight 9;");
            CHECK.good("sit", x, x.sit(0, 1, 0), 1);
            CHECK.good("WEIGHT", x, x.sitter(1, 3), 1);
        });
        CHECK.sentence("Promise 23: (2: the MATTER)", () -> {
            MossSeats x = CHECK.with(Check.WOOD);
            CHECK.outside(4, m -> CHECK.refused("sit(0, 1, " + m + ")", x, 2, () -> x.sit(0, 1, m)));
            CHECK.refused("ahead of 5", x, 2, () -> x.sit(60, 0, 4));
            MossSeats none = new MossSeats();
            CHECK.refused("no MATTERS", none, 2, () -> none.sit(0, 1, 0));
        });
        CHECK.sentence("Promise 23: (5: MILE 0 to 59", () -> {
            MossSeats x = CHECK.with(Check.WOOD);
            CHECK.outside(60, mile -> CHECK.refused("MILE " + mile, x, 5, () -> x.sit(mile, 1, 0)));
            CHECK.good("0", x, x.sit(0, 1, 0), 4);
            CHECK.good("59", x, x.sit(59, 1, 0), 5);
            CHECK.good("MILES", x, x.sitter(4, 0) * 100 + x.sitter(5, 0), 59);
        });
        CHECK.sentence("Promise 23: TALL 1 to 99)", () -> {
            MossSeats x = CHECK.with(Check.WOOD);
            CHECK.outside(100, tall -> CHECK.refused("TALL " + tall, x, 5, () -> x.sit(0, tall, 0)));
            CHECK.refused("TALL 0", x, 5, () -> x.sit(0, 0, 0));
            CHECK.good("1", x, x.sit(0, 1, 0), 4);
            CHECK.good("99", x, x.sit(0, 99, 0), 5);
            CHECK.good("TALL", x, x.sitter(4, 1) * 100 + x.sitter(5, 1), 199);
        });
        CHECK.sentence("Promise 23: (7: an eighth)", () -> {
            MossSeats x = CHECK.with("matter a pace 0; sitter s mile 1 tall 2 for a; sitter t mile 1 tall 2 for a; sitter u mile 1 tall 2 for a;");
            for (int s = 3; s < 7; s++) {
                CHECK.good("there is room", x, x.sit(0, 1, 0), s);
            }
            CHECK.refused("an eighth", x, 7, () -> x.sit(0, 1, 0));
            CHECK.refused("5 ahead of 7", x, 5, () -> x.sit(0, 100, 0));
            CHECK.refused("2 ahead of 7", x, 2, () -> x.sit(0, 1, 1));
            CHECK.good("the seventh is as he was", x, x.sitter(6, 1), 1);
        });
    }

    private static void hear() {
        CHECK.sentence("Promise 24: a NEWS more: its number", () -> {
            MossSeats x = CHECK.with("matter a pace 0; matter b pace 0;");
            CHECK.good("the first", x, x.hear(1, 3), 0);
            CHECK.good("the second", x, x.hear(0, 4), 1);
            CHECK.good("neither CAME", x, x.many(9), 0);
            CHECK.good("it comes", x, x.bring(0), 3);
        });
        CHECK.sentence("Promise 24: it did not come, whatever came ahead", () -> {
            MossSeats x = CHECK.with(Check.WOOD);
            x.mark();
            x.hear(1, 1);
            x.bring(4);
            x.back();
            CHECK.good("hear", x, x.hear(2, 1), 4);
            CHECK.good("it did not come", x, x.news(4, 2), 0);
        });
        CHECK.sentence("Promise 24: (2)", () -> {
            MossSeats x = CHECK.with(Check.WOOD);
            CHECK.outside(4, m -> CHECK.refused("hear(" + m + ", 1)", x, 2, () -> x.hear(m, 1)));
            CHECK.refused("ahead of 5", x, 2, () -> x.hear(4, 101));
        });
        CHECK.sentence("Promise 24: (5: SIZE 1 to 100)", () -> {
            MossSeats x = CHECK.with(Check.WOOD);
            CHECK.outside(101, size -> CHECK.refused("SIZE " + size, x, 5, () -> x.hear(0, size)));
            CHECK.refused("SIZE 0", x, 5, () -> x.hear(0, 0));
            CHECK.good("1", x, x.hear(0, 1), 4);
            CHECK.good("100", x, x.hear(0, 100), 5);
            CHECK.good("SIZES", x, x.news(4, 1) * 1000 + x.news(5, 1), 1100);
        });
        CHECK.sentence("Promise 24: (7: a ninth)", () -> {
            MossSeats x = CHECK.with("matter a pace 0;" + "news a size 1;".repeat(7));
            CHECK.good("an eighth", x, x.hear(0, 5), 7);
            CHECK.refused("a ninth", x, 7, () -> x.hear(0, 1));
            CHECK.refused("5 ahead of 7", x, 5, () -> x.hear(0, 101));
            CHECK.refused("2 ahead of 7", x, 2, () -> x.hear(1, 1));
            x.bring(0);
            CHECK.refused("what CAME makes no room", x, 7, () -> x.hear(0, 1));
        });
    }

    private static void bind() {
        CHECK.sentence("Promise 25: a HOLD more: its number", () -> {
            MossSeats x = CHECK.with("matter a pace 0; matter b pace 0;");
            CHECK.good("the first", x, x.bind(1, 0), 0);
            CHECK.good("the second, in the other order", x, x.bind(0, 1), 1);
            CHECK.good("HELD", x, x.hold(0, 0) * 10 + x.hold(1, 0), 10);
            CHECK.good("both are STUCK", x, x.many(7), 3);
        });
        CHECK.sentence("Promise 25: (2)", () -> {
            MossSeats x = CHECK.with(Check.WOOD);
            CHECK.outside(4, m -> {
                CHECK.refused("bind(" + m + ", 0)", x, 2, () -> x.bind(m, 0));
                CHECK.refused("bind(0, " + m + ")", x, 2, () -> x.bind(0, m));
                CHECK.refused("bind(" + m + ", " + m + "): ahead of 5", x, 2, () -> x.bind(m, m));
            });
        });
        CHECK.sentence("Promise 25: (5: of one by itself)", () -> {
            MossSeats x = CHECK.with(Check.WOOD);
            for (int m = 0; m < 4; m++) {
                int matter = m;
                CHECK.refused("MATTER " + m, x, 5, () -> x.bind(matter, matter));
            }
        });
        CHECK.sentence("Promise 25: (7: an 11th)", () -> {
            MossSeats x = CHECK.with(Check.WOOD);
            int[][] more = {{0, 2}, {0, 3}, {1, 0}, {1, 2}, {1, 3}, {2, 0}, {2, 1}, {3, 0}};
            for (int i = 0; i < 8; i++) {
                CHECK.good("HOLD " + (i + 2), x, x.bind(more[i][0], more[i][1]), i + 2);
            }
            CHECK.refused("an 11th", x, 7, () -> x.bind(3, 1));
            CHECK.refused("7 ahead of 9", x, 7, () -> x.bind(0, 1));
            CHECK.refused("5 ahead of 7", x, 5, () -> x.bind(1, 1));
            CHECK.refused("2 ahead of 7", x, 2, () -> x.bind(3, 4));
            x.loose(0);
            CHECK.good("there is room again", x, x.bind(3, 1), 9);
        });
        CHECK.sentence("Promise 25: (9: there is one)", () -> {
            MossSeats x = CHECK.with(Check.WOOD);
            CHECK.refused("the first", x, 9, () -> x.bind(0, 1));
            CHECK.refused("the last, by a SETTLED one", x, 9, () -> x.bind(2, 3));
            CHECK.good("in the other order", x, x.bind(1, 0), 2);
        });
    }

    private static void loose() {
        CHECK.sentence("Promise 26: (those behind it have a number less): how many are left", () -> {
            MossSeats x = CHECK.with("matter a pace 0; matter b pace 0; matter c pace 0; hold a by b; hold b by c; hold c by a; hold a by c;");
            CHECK.good("one within", x, x.loose(1), 3);
            CHECK.good("HELD", x, x.hold(0, 0) * 100 + x.hold(1, 0) * 10 + x.hold(2, 0), 20);
            CHECK.good("by", x, x.hold(0, 1) * 100 + x.hold(1, 1) * 10 + x.hold(2, 1), 102);
            CHECK.good("the last", x, x.loose(2), 2);
            CHECK.good("the first", x, x.loose(0), 1);
            CHECK.good("who is left", x, x.hold(0, 0) * 10 + x.hold(0, 1), 20);
            CHECK.good("the only one", x, x.loose(0), 0);
            CHECK.good("none is STUCK", x, x.many(7), 0);
        });
        CHECK.sentence("Promise 26: a HOLD is gone, the first of ten", () -> {
            MossSeats x = CHECK.with("matter a pace 0; matter b pace 0; matter c pace 0; matter d pace 0; hold a by b; hold a by c; hold a by d; hold b by a; hold b by c;"
                + "hold b by d; hold c by a; hold c by b; hold c by d; hold d by c;");
            CHECK.good("loose", x, x.loose(0), 9);
            CHECK.good("the last has a number less", x, x.hold(8, 0) * 10 + x.hold(8, 1), 32);
            CHECK.refused("its old one is none", x, 2, () -> x.hold(9, 0));
            CHECK.good("bind", x, x.bind(0, 1), 9);
        });
        CHECK.sentence("Promise 26: (2)", () -> {
            MossSeats x = CHECK.with(Check.WOOD);
            CHECK.outside(2, h -> CHECK.refused("loose(" + h + ")", x, 2, () -> x.loose(h)));
            MossSeats none = new MossSeats();
            CHECK.refused("none", none, 2, () -> none.loose(0));
        });
    }

    private static void hurryAndRule() {
        CHECK.sentence("Promise 27: PACE of a MATTER from now on (0 to 20): what it was", () -> {
            MossSeats x = CHECK.with("matter a pace 7; matter b pace 3;");
            CHECK.good("to 0", x, x.hurry(0, 0), 7);
            x.day(1);
            CHECK.good("no clearer", x, x.matter(0, 0), 0);
            CHECK.good("to 20", x, x.hurry(0, 20), 0);
            x.day(1);
            CHECK.good("clearer by 20", x, x.matter(0, 0), 20);
            CHECK.good("to what it is", x, x.hurry(0, 20), 20);
            CHECK.good("the other one stays", x, x.matter(1, 1), 3);
        });
        CHECK.sentence("Promise 27: (2)", () -> {
            MossSeats x = CHECK.with(Check.WOOD);
            CHECK.outside(4, m -> CHECK.refused("hurry(" + m + ", 1)", x, 2, () -> x.hurry(m, 1)));
            CHECK.refused("ahead of 5", x, 2, () -> x.hurry(4, 21));
        });
        CHECK.sentence("Promise 27: (5)", () -> {
            MossSeats x = CHECK.with(Check.WOOD);
            CHECK.outside(21, pace -> CHECK.refused("hurry(0, " + pace + ")", x, 5, () -> x.hurry(0, pace)));
            CHECK.good("PACE stays", x, x.matter(0, 1), 10);
        });
        CHECK.sentence("Promise 28: ODDS from now on (0 to 16)", () -> {
            MossSeats x = new MossSeats();
            for (int odds = 0; odds <= 16; odds++) {
                CHECK.good("rule(" + odds + ")", x, x.rule(odds));
                CHECK.good("ODDS", x, x.many(4), odds);
            }
        });
        CHECK.sentence("Promise 28: (5)", () -> {
            MossSeats x = new MossSeats();
            CHECK.outside(17, odds -> CHECK.refusedNo("rule(" + odds + ")", x, 5, () -> x.rule(odds)));
            CHECK.good("ODDS stay", x, x.many(4), 4);
        });
    }
}

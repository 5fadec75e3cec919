/** Promises 19 to 28, 53 and 54: what is done, and MARKS to which it is taken back. */
public final class DeedsTest {
    private static final Check CHECK = new Check("DeedsTest");

    public static void main(String[] args) {
        promise19Day();
        promise19DaysHeld();
        promise20Bring();
        promise21Crisis();
        promise22Turn();
        promise23Sit();
        promise24Hear();
        promise25Bind();
        promise26Loose();
        promise27Hurry();
        promise28Rule();
        promise53And54Marks();
        CHECK.finish();
    }

    private static void promise19Day() {
        MossSeats x = CHECK.with(Check.WOOD);
        CHECK.due("day(3)", x.day(3), 8);
        CHECK.due("day(3) STATUS", x.status(), 0);
        CHECK.due("by its PACE", x.matter(2, 0), 45);
        CHECK.due("STUCK", x.matter(0, 0), 20);
        CHECK.due("without a PACE", x.matter(1, 0), 60);
        CHECK.due("day(4)", x.day(4), 12);
        CHECK.due("100 at most", x.matter(2, 0), 100);
        CHECK.due("the DAY", x.many(5), 7);
        CHECK.refused("day(0)", x, 5, () -> x.day(0));
        CHECK.refused("day(-1)", x, 5, () -> x.day(-1));
        CHECK.refused("day(1000)", x, 5, () -> x.day(1000));
        CHECK.refused("day(most)", x, 5, () -> x.day(Integer.MAX_VALUE));
        for (int i = 0; i < 10; i++) {
            CHECK.due("day(999)", x.day(999), 12);
        }
        CHECK.due("nine days short", x.many(5), 9997);
        CHECK.refused("above 9,999", x, 7, () -> x.day(3));
        CHECK.due("to 9,999", x.day(2), 12);
        CHECK.due("DAY 9,999", x.many(5), 9999);
        CHECK.refused("no DAY more", x, 7, () -> x.day(1));
        CHECK.refused("5 ahead of 7", x, 5, () -> x.day(1000));
    }

    private static void promise19DaysHeld() {
        // b is settled on day 10; a grows clearer only from the day behind it on
        MossSeats x = CHECK.with("matter a pace 3; matter b pace 10; matter c pace 20 clear 99; hold a by b; hold b by c;"
            + "sitter s mile 0 tall 99 for a;");
        x.day(1);
        CHECK.due("as all is when the DAY begins", x.matter(1, 0), 0);
        CHECK.due("SETTLED on this DAY", x.matter(2, 0), 100);
        x.day(10);
        CHECK.due("b is SETTLED on DAY 11", x.matter(1, 0), 100);
        CHECK.due("a was STUCK till then", x.matter(0, 0), 0);
        CHECK.due("it goes on a DAY later", x.day(1), 0);
        CHECK.due("by its PACE then", x.matter(0, 0), 3);
        x.crisis(1, 1);
        x.day(1);
        CHECK.due("STUCK once more", x.matter(0, 0), 3);
        CHECK.due("till b is SETTLED again", x.matter(1, 0), 100);
        CHECK.due("many DAYS", x.day(999), 1);
        MossSeats y = CHECK.with("matter a pace 20; matter b pace 20; hold a by b; hold b by a; matter c pace 1; hold c by b;");
        y.day(999);
        CHECK.due("a RING never moves", y.matter(0, 0) + y.matter(1, 0) + y.matter(2, 0), 0);
        CHECK.due("all of them are STUCK", y.many(7), 7);
        y.hear(1, 100);
        CHECK.due("but by NEWS", y.bring(0), 100);
        y.day(4);
        CHECK.due("then a moves", y.matter(0, 0), 80);
        CHECK.due("and c", y.matter(2, 0), 4);
    }

    private static void promise20Bring() {
        MossSeats x = CHECK.with(Check.WOOD);
        CHECK.due("bring(0)", x.bring(0), 90);
        CHECK.due("bring(0) STATUS", x.status(), 0);
        CHECK.refused("it CAME", x, 9, () -> x.bring(0));
        CHECK.due("STUCK or not", x.bring(2), 99);
        CHECK.due("100 at most", x.bring(1), 100);
        x.hear(1, 1);
        CHECK.refused("its MATTER is SETTLED", x, 9, () -> x.bring(4));
        CHECK.due("it did not come", x.news(4, 2), 0);
        x.crisis(1, 50);
        CHECK.due("when it isn't any more", x.bring(4), 51);
        CHECK.refused("no such NEWS", x, 2, () -> x.bring(5));
        CHECK.refused("no such NEWS below", x, 2, () -> x.bring(-1));
        CHECK.due("which CAME", x.many(9), 23);
    }

    private static void promise21Crisis() {
        MossSeats x = CHECK.with(Check.WOOD);
        CHECK.due("crisis(3, 40)", x.crisis(3, 40), 60);
        CHECK.due("crisis(3, 40) STATUS", x.status(), 0);
        CHECK.due("what it was SETTLED by", x.many(6), 0);
        CHECK.due("0 at least", x.crisis(0, 100), 0);
        CHECK.refused("CLEAR by 0", x, 9, () -> x.crisis(0, 1));
        CHECK.refused("5 ahead of 9", x, 5, () -> x.crisis(0, 0));
        CHECK.refused("by 101", x, 5, () -> x.crisis(1, 101));
        CHECK.refused("by -1", x, 5, () -> x.crisis(1, -1));
        CHECK.refused("no such MATTER", x, 2, () -> x.crisis(4, 0));
        CHECK.refused("no such MATTER below", x, 2, () -> x.crisis(-1, 1));
        CHECK.due("by 1", x.crisis(1, 1), 59);
    }

    private static void promise22Turn() {
        MossSeats x = CHECK.with(Check.WOOD);
        CHECK.due("turn(0, 1)", x.turn(0, 1), 20);
        CHECK.due("turn(0, 1) STATUS", x.status(), 0);
        CHECK.due("he sits FOR it", x.sitter(0, 2), 1);
        CHECK.refused("he sits FOR it, 9", x, 9, () -> x.turn(0, 1));
        CHECK.due("to a SETTLED one", x.turn(0, 3), 0);
        CHECK.due("he is DOWN", x.many(8), 9);
        CHECK.refused("no such SITTER", x, 2, () -> x.turn(4, 0));
        CHECK.refused("no such SITTER below", x, 2, () -> x.turn(-1, 0));
        CHECK.refused("no such MATTER", x, 2, () -> x.turn(0, 4));
        CHECK.refused("no such MATTER below", x, 2, () -> x.turn(0, -1));
    }

    private static void promise23Sit() {
        MossSeats x = CHECK.with(Check.WOOD);
        CHECK.due("sit(59, 99, 2)", x.sit(59, 99, 2), 4);
        CHECK.due("sit STATUS", x.status(), 0);
        CHECK.due("his MILE", x.sitter(4, 0), 59);
        CHECK.due("how TALL", x.sitter(4, 1), 99);
        CHECK.due("his MATTER", x.sitter(4, 2), 2);
        CHECK.due("his WEIGHT", x.sitter(4, 3), 1);
        CHECK.refused("no such MATTER", x, 2, () -> x.sit(60, 1, 4));
        CHECK.refused("no such MATTER below", x, 2, () -> x.sit(0, 1, -1));
        CHECK.refused("MILE 60", x, 5, () -> x.sit(60, 1, 0));
        CHECK.refused("MILE -1", x, 5, () -> x.sit(-1, 1, 0));
        CHECK.refused("TALL 0", x, 5, () -> x.sit(0, 0, 0));
        CHECK.refused("TALL 100", x, 5, () -> x.sit(0, 100, 0));
        CHECK.due("sit(0, 1, 0)", x.sit(0, 1, 0), 5);
        CHECK.due("a seventh", x.sit(0, 1, 3), 6);
        CHECK.refused("an eighth", x, 7, () -> x.sit(0, 1, 0));
        CHECK.refused("5 ahead of 7", x, 5, () -> x.sit(60, 1, 0));
        CHECK.due("seven", x.many(2), 7);
    }

    private static void promise24Hear() {
        MossSeats x = CHECK.with(Check.WOOD);
        CHECK.due("hear(3, 100)", x.hear(3, 100), 4);
        CHECK.due("hear STATUS", x.status(), 0);
        CHECK.due("its MATTER", x.news(4, 0), 3);
        CHECK.due("its SIZE", x.news(4, 1), 100);
        CHECK.due("it did not come", x.news(4, 2), 0);
        CHECK.refused("no such MATTER", x, 2, () -> x.hear(4, 0));
        CHECK.refused("no such MATTER below", x, 2, () -> x.hear(-1, 1));
        CHECK.refused("SIZE 0", x, 5, () -> x.hear(0, 0));
        CHECK.refused("SIZE 101", x, 5, () -> x.hear(0, 101));
        for (int i = 5; i < 8; i++) {
            CHECK.due("one more", x.hear(0, 1), i);
        }
        CHECK.refused("a ninth", x, 7, () -> x.hear(0, 1));
        CHECK.refused("5 ahead of 7", x, 5, () -> x.hear(0, 0));
        CHECK.due("the eighth comes", x.bring(7), 21);
        CHECK.due("it CAME", x.many(9), 128);
    }

    private static void promise25Bind() {
        MossSeats x = CHECK.with(Check.WOOD);
        CHECK.due("bind(1, 0)", x.bind(1, 0), 2);
        CHECK.due("bind STATUS", x.status(), 0);
        CHECK.due("HELD", x.hold(2, 0), 1);
        CHECK.due("by", x.hold(2, 1), 0);
        CHECK.refused("there is one", x, 9, () -> x.bind(0, 1));
        CHECK.refused("of one by itself", x, 5, () -> x.bind(2, 2));
        CHECK.refused("no such MATTER", x, 2, () -> x.bind(4, 4));
        CHECK.refused("no such MATTER by", x, 2, () -> x.bind(0, -1));
        int[][] more = {{0, 2}, {0, 3}, {1, 2}, {1, 3}, {2, 0}, {2, 1}, {3, 0}};
        for (int i = 0; i < more.length; i++) {
            CHECK.due("one more", x.bind(more[i][0], more[i][1]), 3 + i);
        }
        CHECK.refused("an 11th", x, 7, () -> x.bind(3, 1));
        CHECK.refused("7 ahead of 9", x, 7, () -> x.bind(0, 1));
        CHECK.refused("5 ahead of 7", x, 5, () -> x.bind(0, 0));
    }

    private static void promise26Loose() {
        MossSeats x = CHECK.with(Check.WOOD);
        x.bind(3, 0);
        CHECK.due("loose(0)", x.loose(0), 2);
        CHECK.due("loose STATUS", x.status(), 0);
        CHECK.due("those behind it: HELD", x.hold(0, 0) * 10 + x.hold(1, 0), 23);
        CHECK.due("those behind it: by", x.hold(0, 1) * 10 + x.hold(1, 1), 30);
        CHECK.due("none is STUCK by it", x.many(7), 0);
        CHECK.refused("no such HOLD", x, 2, () -> x.loose(2));
        CHECK.refused("no such HOLD below", x, 2, () -> x.loose(-1));
        CHECK.due("the last one", x.loose(1), 1);
        CHECK.due("none left", x.loose(0), 0);
        CHECK.refused("none to loose", x, 2, () -> x.loose(0));
        CHECK.due("it may be bound again", x.bind(0, 1), 0);
        x.bind(2, 3);
        x.loose(1);
        CHECK.due("the last one may be bound again", x.bind(2, 3), 1);
    }

    private static void promise27Hurry() {
        MossSeats x = CHECK.with(Check.WOOD);
        CHECK.due("hurry(2, 20)", x.hurry(2, 20), 15);
        CHECK.due("hurry STATUS", x.status(), 0);
        CHECK.due("what it was", x.hurry(2, 0), 20);
        x.day(1);
        CHECK.due("from now on", x.matter(2, 0), 0);
        CHECK.refused("PACE 21", x, 5, () -> x.hurry(2, 21));
        CHECK.refused("PACE -1", x, 5, () -> x.hurry(2, -1));
        CHECK.refused("no such MATTER", x, 2, () -> x.hurry(4, 21));
        CHECK.refused("no such MATTER below", x, 2, () -> x.hurry(-1, 1));
        CHECK.due("refused: as it was", x.matter(2, 1), 0);
    }

    private static void promise28Rule() {
        MossSeats x = CHECK.with(Check.WOOD);
        CHECK.due("rule(0)", x.rule(0), true);
        CHECK.due("ODDS", x.many(4), 0);
        CHECK.due("rule(16)", x.rule(16), true);
        CHECK.refusedNo("rule(17)", x, 5, () -> x.rule(17));
        CHECK.refusedNo("rule(-1)", x, 5, () -> x.rule(-1));
        CHECK.due("ODDS stay", x.many(4), 16);
    }

    private static void promise53And54Marks() {
        MossSeats x = CHECK.with(Check.WOOD);
        Check.years(x, "day 2;");
        x.tray(0, 0, 1);
        CHECK.due("mark()", x.mark(), 1);
        CHECK.due("mark() STATUS", x.status(), 0);
        x.day(3);
        x.bring(1);
        CHECK.due("a second", x.mark(), 2);
        x.crisis(3, 100);
        x.turn(0, 1);
        x.sit(1, 2, 3);
        x.hear(1, 1);
        x.bind(1, 0);
        x.loose(0);
        x.hurry(0, 1);
        x.rule(1);
        Check.years(x, "stop;");
        CHECK.due("a third", x.mark(), 3);
        CHECK.refused("a fourth", x, 7, x::mark);
        Check.wood(x, "matter a pace 1;");
        x.write(0, 0, 9);
        CHECK.due("back()", x.back(), 2);
        CHECK.due("back() STATUS", x.status(), 0);
        CHECK.due("as of the third", x.many(2), 5);
        CHECK.due("its ODDS", x.many(4), 1);
        CHECK.due("its YEARS", x.live(0), 1);
        CHECK.due("its DAY", x.many(5), 3);
        CHECK.due("TRAYS stay", x.read(0, 0), 9);
        CHECK.due("back() again", x.back(), 1);
        CHECK.due("as of the second: SITTERS", x.many(2), 4);
        CHECK.due("NEWS", x.many(3), 4);
        CHECK.due("HOLDS", x.many(1), 2);
        CHECK.due("a HOLD", x.hold(0, 1), 1);
        CHECK.due("ODDS", x.many(4), 8);
        CHECK.due("PACE", x.matter(0, 1), 10);
        CHECK.due("CLEAR", x.matter(3, 0), 100);
        CHECK.due("CLEARER by NEWS", x.matter(1, 0), 75);
        CHECK.due("which CAME", x.many(9), 2);
        CHECK.due("FOR which MATTER", x.sitter(0, 2), 0);
        CHECK.due("YEARS of the first", x.live(0), 1);
        CHECK.due("LIVED", x.many(5), 5);
        CHECK.due("a MARK where one went", x.mark(), 2);
        CHECK.due("and back", x.back(), 1);
        CHECK.due("the first", x.back(), 0);
        CHECK.due("DAY 0", x.many(5), 0);
        CHECK.due("no NEWS CAME", x.many(9), 0);
        CHECK.refused("none is left", x, 8, x::back);
        CHECK.due("names came back, too", Check.years(x, "crisis law 1; turn kit inn;"), 2);
        CHECK.due("LIVED stays", x.lived(1), 2);
    }
}

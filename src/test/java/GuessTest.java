/** Promises 44 to 49: when to get off, games, odds. */
public final class GuessTest {
    private static final Check CHECK = new Check("GuessTest");

    public static void main(String[] args) {
        promise44Off();
        promise45Stay();
        promise46Game();
        promise47MoveOf();
        promise48Lasts();
        promise49Share();
        CHECK.finish();
    }

    private static void promise44Off() {
        MossSeats x = new MossSeats();
        CHECK.fraction("off(10, 0)", x, x.off(10, 0), 10, 1);
        CHECK.fraction("off(0, 8)", x, x.off(0, 8), 0, 1);
        CHECK.fraction("off(4, 8): a quarter a DAY is not worth it", x, x.off(4, 8), 4, 1);
        CHECK.fraction("off(3, 1)", x, x.off(3, 1), 3, 1);
        CHECK.fraction("off(5, 1)", x, x.off(5, 1), 19, 4);
        CHECK.fraction("off(5, 2)", x, x.off(5, 2), 73, 16);
        x.rule(8);
        CHECK.fraction("off(10, 1)", x, x.off(10, 1), 6, 1);
        CHECK.fraction("off(10, 2)", x, x.off(10, 2), 4, 1);
        CHECK.fraction("off(10, 3)", x, x.off(10, 3), 3, 1);
        CHECK.fraction("off(99, 8)", x, x.off(99, 8), 609, 256);
        x.rule(0);
        CHECK.fraction("never SETTLED", x, x.off(99, 8), 99, 1);
        x.rule(16);
        CHECK.fraction("SETTLED at once", x, x.off(99, 8), 1, 1);
        CHECK.fraction("or off for as much", x, x.off(1, 8), 1, 1);
        x.rule(1);
        CHECK.fraction("long numbers", x, x.off(99, 8), 281439398611L, 4294967296L);
        CHECK.refusedNo("HEIGHT 100", x, 5, () -> x.off(100, 0));
        CHECK.refusedNo("HEIGHT -1", x, 5, () -> x.off(-1, 0));
        CHECK.refusedNo("9 DAYS", x, 5, () -> x.off(1, 9));
        CHECK.refusedNo("-1 DAYS", x, 5, () -> x.off(1, -1));
    }

    private static void promise45Stay() {
        MossSeats x = new MossSeats();
        CHECK.due("stay(5, 1)", x.stay(5, 1), 1);
        CHECK.due("stay STATUS", x.status(), 0);
        CHECK.due("stay(4, 8): as much is not less", x.stay(4, 8), 0);
        CHECK.due("no, STATUS", x.status(), 0);
        CHECK.due("stay(3, 8)", x.stay(3, 8), 0);
        CHECK.due("no DAYS", x.stay(99, 0), 0);
        CHECK.due("HEIGHT 0", x.stay(0, 8), 0);
        CHECK.due("it tells no FRACTION", x.top() * 10 + x.bottom(), 1);
        x.rule(0);
        CHECK.due("never SETTLED", x.stay(99, 8), 0);
        x.rule(16);
        CHECK.due("SETTLED at once", x.stay(2, 1), 1);
        CHECK.refused("HEIGHT 100", x, 5, () -> x.stay(100, 0));
        CHECK.refused("HEIGHT -1", x, 5, () -> x.stay(-1, 0));
        CHECK.refused("9 DAYS", x, 5, () -> x.stay(1, 9));
        CHECK.refused("-1 DAYS", x, 5, () -> x.stay(1, -1));
    }

    private static final String DUEL = "matter p pace 1; matter q pace 1 clear 20; sitter s mile 0 tall 50 for p; sitter t mile 0 tall 90 for q;"
        + "news p size 40; news q size 50; news p size 10;";

    private static void promise46Game() {
        MossSeats x = CHECK.with(DUEL);
        CHECK.due("no turns", x.game(0, 1, 0), 72 - 50);
        CHECK.due("the other way round", x.game(1, 0, 0), -22);
        CHECK.due("one turn: he sinks", x.game(0, 1, 1), 72 - 30);
        CHECK.due("below 0", x.game(1, 0, 1), 50 - 27);
        CHECK.due("two turns", x.game(0, 1, 2), 27 - 30);
        CHECK.due("two turns, the other way round", x.game(1, 0, 2), 30 - 27);
        CHECK.due("three turns", x.game(0, 1, 3), 27 - 25);
        CHECK.due("four turns: none brings more", x.game(0, 1, 4), 27 - 25);
        CHECK.due("nothing changes by it", x.many(9), 0);
        CHECK.due("nothing changes by it: CLEAR", x.matter(0, 0), 0);
        x.crisis(1, 20);
        x.hear(1, 13);
        x.hear(0, 3);
        x.bring(0);
        x.bring(1);
        x.bring(2);
        CHECK.due("45 less 25", x.game(0, 1, 0), 20);
        MossSeats even = CHECK.with("matter p pace 1; sitter s mile 0 tall 51 for p; sitter t mile 0 tall 50 for p;");
        even.many(99);
        CHECK.due("it may be -1", even.game(0, 1, 4), -1);
        CHECK.due("STATUS tells NONE from -1", even.status(), 0);
        MossSeats settled = CHECK.with("matter p pace 1 clear 90; sitter s mile 0 tall 20 for p; sitter t mile 0 tall 99 for p; news p size 10; news p size 10;");
        CHECK.due("who would lose by all brings none", settled.game(0, 1, 1), 7);
        CHECK.due("the other one brings it", settled.game(0, 1, 2), 0);
        CHECK.due("of a SETTLED one no NEWS", settled.game(1, 0, 4), 0);
        CHECK.refused("no such SITTER", x, 2, () -> x.game(2, 0, 9));
        CHECK.refused("no such other", x, 2, () -> x.game(0, -1, 0));
        CHECK.refused("one and himself", x, 5, () -> x.game(1, 1, 1));
        CHECK.refused("five turns", x, 5, () -> x.game(0, 1, 5));
        CHECK.refused("-1 turns", x, 5, () -> x.game(0, 1, -1));
    }

    private static void promise47MoveOf() {
        MossSeats x = CHECK.with(DUEL);
        CHECK.due("one turn", x.moveOf(0, 1, 1), 0);
        CHECK.due("moveOf STATUS", x.status(), 0);
        CHECK.due("the other way round", x.moveOf(1, 0, 1), 1);
        CHECK.due("two turns", x.moveOf(0, 1, 2), 0);
        CHECK.due("three turns", x.moveOf(0, 1, 3), 0);
        CHECK.due("four turns", x.moveOf(0, 1, 4), 0);
        CHECK.due("nothing changes by it", x.many(9), 0);
        x.bring(0);
        CHECK.due("what CAME is no move", x.moveOf(0, 1, 1), 2);
        MossSeats even = CHECK.with("matter p pace 1; matter q pace 1; matter r pace 1; sitter s mile 0 tall 50 for p; sitter t mile 0 tall 90 for q;"
            + "news r size 9; news p size 50; news p size 50; news r size 1;");
        CHECK.due("of as good ones the first", even.moveOf(0, 1, 1), 1);
        even.bring(1);
        even.bring(2);
        CHECK.due("none comes last", even.moveOf(0, 1, 1), 0);
        even.bring(0);
        CHECK.due("none comes last, two turns", even.moveOf(0, 1, 2), 3);
        even.bring(3);
        CHECK.refused("no NEWS is left", even, 8, () -> even.moveOf(0, 1, 1));
        MossSeats twice = CHECK.with("matter p pace 1; matter q pace 1; sitter s mile 0 tall 50 for p; sitter t mile 0 tall 90 for q;"
            + "news p size 60; news p size 60; news p size 100; news q size 5;");
        CHECK.due("a turn alone", twice.moveOf(0, 1, 1), 2);
        CHECK.due("the second turn is the other one's", twice.moveOf(0, 1, 2), 2);
        CHECK.due("with a third turn two will do", twice.moveOf(0, 1, 3), 0);
        MossSeats settled = CHECK.with("matter p pace 1 clear 100; matter q pace 1; sitter s mile 0 tall 50 for q; sitter t mile 0 tall 90 for q;"
            + "news p size 60; news q size 1;");
        // 40 by all of them, as 49.5 is 49 and 89.1 is 89
        CHECK.due("NEWS of a SETTLED one is no move", settled.moveOf(0, 1, 1), 1);
        MossSeats worse = CHECK.with("matter p pace 1; sitter s mile 0 tall 20 for p; sitter t mile 0 tall 90 for p; news p size 10;");
        CHECK.refused("none is better", worse, 8, () -> worse.moveOf(0, 1, 1));
        CHECK.due("the other one has a move", worse.moveOf(1, 0, 1), 0);
        CHECK.refused("no such SITTER", x, 2, () -> x.moveOf(2, 0, 0));
        CHECK.refused("no such other", x, 2, () -> x.moveOf(0, -1, 1));
        CHECK.refused("one and himself", x, 5, () -> x.moveOf(1, 1, 1));
        CHECK.refused("five turns", x, 5, () -> x.moveOf(0, 1, 5));
        CHECK.refused("no turns", x, 5, () -> x.moveOf(0, 1, 0));
        CHECK.refused("-1 turns", x, 5, () -> x.moveOf(0, 1, -1));
    }

    private static void promise48Lasts() {
        MossSeats x = new MossSeats();
        CHECK.fraction("lasts(0)", x, x.lasts(0), 1, 1);
        CHECK.fraction("lasts(1)", x, x.lasts(1), 3, 4);
        CHECK.fraction("lasts(12)", x, x.lasts(12), 531441, 16777216);
        x.rule(16);
        CHECK.fraction("over at once", x, x.lasts(1), 0, 1);
        CHECK.fraction("for no DAYS", x, x.lasts(0), 1, 1);
        x.rule(0);
        CHECK.fraction("never over", x, x.lasts(12), 1, 1);
        x.rule(5);
        CHECK.fraction("lasts(2)", x, x.lasts(2), 121, 256);
        CHECK.refusedNo("lasts(13)", x, 5, () -> x.lasts(13));
        CHECK.refusedNo("lasts(-1)", x, 5, () -> x.lasts(-1));
    }

    private static void promise49Share() {
        MossSeats x = CHECK.with(Check.WOOD);
        CHECK.fraction("share(0)", x, x.share(0), 40, 123);
        CHECK.fraction("share(1)", x, x.share(1), 1, 41);
        CHECK.fraction("share(3)", x, x.share(3), 0, 1);
        CHECK.refusedNo("no such SITTER", x, 2, () -> x.share(4));
        CHECK.refusedNo("no such SITTER below", x, 2, () -> x.share(-1));
        MossSeats one = CHECK.with("matter p pace 20; sitter s mile 0 tall 50 for p;");
        CHECK.fraction("he alone", one, one.share(0), 1, 1);
        one.day(5);
        CHECK.refusedNo("all are DOWN", one, 8, () -> one.share(0));
        CHECK.refusedNo("2 ahead of 8", one, 2, () -> one.share(1));
    }
}

/** Promises 50 to 52: YEARS lived, what became of them, the mean of many. */
public final class YearsTest {
    private static final Check CHECK = new Check("YearsTest");

    public static void main(String[] args) {
        promise50Steps();
        promise50Missed();
        promise50Whens();
        promise50Loops();
        promise50Any();
        promise50Wrong();
        promise51Lived();
        promise51Cut();
        promise52Mean();
        CHECK.finish();
    }

    private static MossSeats with(String years) {
        MossSeats x = CHECK.with(Check.WOOD);
        CHECK.due("years for a test: " + years, Check.years(x, years) >= 0, true);
        return x;
    }

    /** Lives by a seed: STEPS, then MISSED, DAYS, NEWS BROUGHT, CRISES, 1 if cut. */
    private static void lives(String what, MossSeats x, int seed, int steps, int... due) {
        CHECK.due(what + ": live", x.live(seed), steps);
        CHECK.due(what + ": live STATUS", x.status(), 0);
        for (int i = 0; i < due.length; i++) {
            CHECK.due(what + ": lived(" + i + ")", x.lived(i), due[i]);
        }
    }

    private static void promise50Steps() {
        MossSeats x = with("day 2; bring 1; crisis tea 30; turn gil tea; bring 0; day 1;");
        lives("each STEP", x, 0, 6, 0, 3, 2, 1, 0);
        CHECK.due("the DAY", x.many(5), 3);
        CHECK.due("NEWS that CAME", x.many(9), 3);
        // two days 30, then stuck by tea; tea 70, then a day by 7
        CHECK.due("it stays so: tax", x.matter(2, 0), 30);
        CHECK.due("it stays so: tea", x.matter(3, 0), 77);
        CHECK.due("it stays so: law", x.matter(1, 0), 100);
        CHECK.due("it stays so: who sits FOR what", x.sitter(0, 2), 3);
        CHECK.due("it stays so: inn, held as the DAY began no more", x.matter(0, 0), 30);
        lives("once more from there", x, 0, 6, 3, 3, 0, 1, 0);
        CHECK.due("the DAY then", x.many(5), 6);
        lives("stop", with("stop; day 1;"), 0, 1, 0, 0, 0, 0, 0);
        lives("stop within", with("loop 9; loop 9; day 1; stop; end; end; day 9;"), 0, 4, 0, 1, 0, 0, 0);
        lives("nothing", with(""), 0, 0, 0, 0, 0, 0, 0);
    }

    private static void promise50Missed() {
        lives("NEWS that CAME, that there is not, of a SETTLED one", with("bring 3; bring 3; bring 7; bring 0; bring 1; bring 1;"), 0, 6, 3, 0, 3, 0, 0);
        lives("what is CLEAR by 0", with("crisis tax 1; crisis inn 20; crisis inn 1;"), 0, 3, 2, 0, 0, 1, 0);
        MossSeats one = CHECK.with("matter a pace 0 clear 1;");
        Check.years(one, "crisis a 1; crisis a 1;");
        lives("what is CLEAR by 1 can be", one, 0, 2, 1, 0, 0, 1, 0);
        MossSeats turned = with("turn gil inn; turn gil law; turn gil law; turn gil inn;");
        lives("what he sits FOR", turned, 0, 4, 2, 0, 0, 0, 0);
        CHECK.due("he turned twice", turned.sitter(0, 2), 0);
        MossSeats settled = CHECK.with("matter a pace 0 clear 100; news a size 1;");
        Check.years(settled, "bring 0; crisis a 1; bring 0;");
        lives("of a MATTER that is SETTLED", settled, 0, 3, 1, 0, 1, 1, 0);
        MossSeats late = with("day 40; day 5; day 4; day 1; any;");
        for (int i = 0; i < 10; i++) {
            late.day(999);
        }
        late.day(4);
        late.rule(0);
        lives("DAYS beyond 9,999, as a whole", late, 3, 5, 4, 5, 0, 0, 0);
        CHECK.due("DAY 9,999", late.many(5), 9999);
        MossSeats empty = new MossSeats();
        Check.years(empty, "any; any; day 1; bring 0;");
        lives("any without MATTERS", empty, 0, 4, 3, 1, 0, 0, 0);
    }

    private static void promise50Whens() {
        lives("down", with("when down kit; day 1; end; when down gil; day 2; end;"), 0, 3, 0, 1, 0, 0, 0);
        lives("settled", with("when settled tea; day 1; end; when settled tax; day 2; end;"), 0, 3, 0, 1, 0, 0, 0);
        MossSeats other = CHECK.with("matter a pace 0 clear 100; matter b pace 0; matter c pace 0 clear 99; sitter s mile 0 tall 9 for b; sitter t mile 0 tall 1 for a;");
        Check.years(other, "when settled a; day 1; end; when settled b; day 2; end; when settled c; day 4; end; when down s; day 8; end; when down t; day 16; end;");
        lives("settled and down are told apart", other, 0, 7, 0, 17, 0, 0, 0);
        lives("high >", with("when high gil > 39; day 1; end; when high gil > 40; day 2; end;"), 0, 3, 0, 1, 0, 0, 0);
        lives("high <", with("when high gil < 41; day 1; end; when high gil < 40; day 2; end;"), 0, 3, 0, 1, 0, 0, 0);
        lives("high =", with("when high gil = 40; day 1; end; when high gil = 41; day 2; end; when high gil = 39; day 4; end;"), 0, 4, 0, 1, 0, 0, 0);
        lives("high = 0", with("when high kit = 0; day 1; end; when high kit < 0; day 2; end;"), 0, 3, 0, 1, 0, 0, 0);
        lives("as it is then", with("day 7; when down joe; day 2; end; crisis tax 100; when down joe; day 4; end;"), 0, 5, 0, 9, 0, 1, 0);
        lives("a when within", with("when down kit; when down gil; day 1; end; day 2; end; day 4;"), 0, 4, 0, 6, 0, 0, 0);
        lives("not come to", with("when down gil; when down kit; day 1; end; loop 9; day 1; end; end; day 4;"), 0, 2, 0, 4, 0, 0, 0);
    }

    private static void promise50Loops() {
        lives("as often", with("loop 3; day 2; end;"), 0, 4, 0, 6, 0, 0, 0);
        lives("once", with("loop 1; day 2; end; day 1;"), 0, 3, 0, 3, 0, 0, 0);
        lives("within each other", with("loop 2; loop 3; day 1; end; crisis law 1; end;"), 0, 1 + 2 * (1 + 3 + 1), 0, 6, 0, 2, 0);
        lives("three deep", with("loop 2; loop 2; loop 2; day 1; end; end; end; day 1;"), 0, 1 + 2 * (1 + 2 * (1 + 2)) + 1, 0, 9, 0, 0, 0);
        lives("one behind the other", with("loop 2; day 1; end; loop 3; day 1; end;"), 0, 7, 0, 5, 0, 0, 0);
        lives("empty ones", with("loop 99; end; loop 99; loop 99; end; end;"), 0, 1 + 1 + 99, 0, 0, 0, 0, 0);
        lives("many ends", with("loop 2;end;".repeat(26) + "day 1;"), 0, 27, 0, 1, 0, 0, 0);
        lives("a when in a loop", with("loop 9; when high joe > 40; day 1; end; end;"), 0, 1 + 9 + 4, 0, 4, 0, 0, 0);
    }

    private static void promise50Any() {
        // the draws by the seed 0, by 8 and rounded down: 1371, 5045, 192, 6927, 3184, 1132
        MossSeats x = with("any;");
        CHECK.due("ODDS", x.many(4), 8);
        // the matter: 1371 by 4 leaves 3 (tea); 5045 by 16 leaves 5; 192 by 50 leaves 42, and 1 more
        lives("a CRISIS", x, 0, 1, 0, 0, 0, 1, 0);
        CHECK.due("of tea by 43", x.matter(3, 0), 57);
        x.rule(5);
        lives("5 is not below ODDS 5", x, 0, 1, 0, 1, 0, 0, 0);
        CHECK.due("a DAY", x.many(5), 1);
        x.rule(6);
        lives("5 is below ODDS 6", x, 0, 1, 0, 0, 0, 1, 0);
        CHECK.due("57, a DAY by 7, a CRISIS by 43", x.matter(3, 0), 21);
        MossSeats twice = with("any; any;");
        twice.rule(6);
        // 6927 by 4 leaves 3 again, 3184 by 16 leaves 0, 1132 by 50 leaves 32, and 1 more
        lives("the draws go on", twice, 0, 2, 0, 0, 0, 2, 0);
        CHECK.due("of tea by 43 and 33", twice.matter(3, 0), 24);
        MossSeats missed = with("crisis tea 100; any; any;");
        missed.rule(6);
        lives("the third draw is made, whether it can be or not", missed, 0, 3, 2, 0, 0, 1, 0);
        MossSeats days = with("any; any;");
        days.rule(5);
        // without a third draw the second one is by 192 and 6927, which leaves 15
        lives("for a DAY no third draw is made", days, 0, 2, 0, 2, 0, 0, 0);
        MossSeats alone = CHECK.with("matter a pace 1 clear 99; odds 16;");
        Check.years(alone, "any;");
        alone.live(0);
        CHECK.due("the draw by one MATTER is made, too", alone.matter(0, 0), 56);
        MossSeats never = with("loop 50; any; end;");
        never.rule(0);
        lives("ODDS 0: DAYS alone", never, 77, 51, 0, 50, 0, 0, 0);
        MossSeats always = with("loop 50; any; end;");
        always.rule(16);
        always.live(77);
        CHECK.due("ODDS 16: no DAYS", always.lived(1), 0);
        CHECK.due("ODDS 16: CRISES and MISSED ones", always.lived(0) + always.lived(3), 50);
        CHECK.due("ODDS 16: some of either", always.lived(0) > 0 && always.lived(3) > 0, true);
    }

    private static void promise50Wrong() {
        MossSeats x = with("day 1;");
        CHECK.refused("seed -1", x, 5, () -> x.live(-1));
        CHECK.refused("seed 10,000", x, 5, () -> x.live(10000));
        CHECK.due("seed 9,999", x.live(9999), 1);
        x.wood(0);
        CHECK.refused("no YEARS", x, 8, () -> x.live(0));
        CHECK.refused("5 ahead of 8", x, 5, () -> x.live(10000));
        MossSeats same = with("loop 9; any; end;");
        MossSeats again = with("loop 9; any; end;");
        same.live(4321);
        again.live(17);
        CHECK.due("another seed, another life", same.many(5) == again.many(5) && same.matter(3, 0) == again.matter(3, 0)
            && same.matter(2, 0) == again.matter(2, 0), false);
    }

    private static void promise51Lived() {
        MossSeats x = with("bring 0; bring 0; day 3; crisis law 5; crisis law 5;");
        CHECK.refused("there was none", x, 8, () -> x.lived(0));
        CHECK.refused("5 ahead of 8", x, 5, () -> x.lived(5));
        x.mark();
        x.live(0);
        long[] due = {1, 3, 1, 2, 0};
        for (int round = 0; round < 4; round++) {
            for (int what = 0; what <= 4; what++) {
                CHECK.due("lived(" + what + "), whatever came since: " + round, x.lived(what), due[what]);
                CHECK.due("lived(" + what + ") STATUS", x.status(), 0);
            }
            if (round == 0) {
                x.live(-1);
                x.mean(0, 3);
            } else if (round == 1) {
                x.back();
                Check.years(x, "day 40;");
            } else {
                x.wood(0);
                x.live(0);
            }
        }
        CHECK.refused("lived(5)", x, 5, () -> x.lived(5));
        CHECK.refused("lived(-1)", x, 5, () -> x.lived(-1));
        x.years(0);
        lives("a new one", x, 0, 0, 0, 0, 0, 0, 0);
    }

    private static void promise51Cut() {
        lives("just 300", with("loop 99; day 1; end; loop 99; day 1; end; loop 98; day 1; end; day 1;"), 0, 300, 0, 297, 0, 0, 0);
        lives("301", with("loop 99; day 1; end; loop 99; day 1; end; loop 99; day 1; end; day 1;"), 0, 300, 0, 297, 0, 0, 1);
        lives("a stop left", with("loop 99; day 1; end; loop 99; day 1; end; loop 99; day 1; end; stop;"), 0, 300, 0, 297, 0, 0, 1);
        lives("the 300th is a stop", with("loop 99; day 1; end; loop 99; day 1; end; loop 98; day 1; end; stop; day 1;"), 0, 300, 0, 296, 0, 0, 0);
        lives("in the midst of a loop", with("loop 10; loop 40; day 1; end; end;"), 0, 300, 0, 291, 0, 0, 1);
        lives("one STEP short", with("loop 2; loop 99; day 1; end; loop 48; day 1; end; end;"), 0, 299, 0, 294, 0, 0, 0);
        lives("a when left", with("loop 99; day 1; end; loop 99; day 1; end; loop 99; day 1; end; when down gil; end;"), 0, 300, 0, 297, 0, 0, 1);
        MossSeats again = with("loop 99; loop 99; any; end; end;");
        lives("cut", again, 7, 300);
        CHECK.due("cut: lived(4)", again.lived(4), 1);
        Check.years(again, "when down kit; end; crisis tea 1;");
        again.hear(3, 100);
        again.bring(4);
        lives("cut no more, and no loop goes on", again, 7, 2, 0, 0, 0, 1, 0);
        lives("the 300th an empty loop", with("loop 99; day 1; end; loop 99; day 1; end; loop 98; day 1; end; loop 9; end;"), 0, 300, 0, 296, 0, 0, 0);
    }

    private static void promise52Mean() {
        MossSeats x = with("day 1;");
        CHECK.fraction("all lives are alike", x, x.mean(5, 20), 40 + 3 + 68, 1);
        CHECK.due("all stays as it is: DAY", x.many(5), 0);
        CHECK.due("all stays as it is: HEIGHT", x.sitter(2, 4), 80);
        CHECK.refused("it is no LIVED", x, 8, () -> x.lived(0));
        MossSeats any = with("loop 9; any; end;");
        long[] sums = new long[4];
        for (int seed = 100; seed < 104; seed++) {
            any.mark();
            any.live(seed);
            for (int s = 0; s < 4; s++) {
                sums[seed - 100] += any.sitter(s, 4);
            }
            any.back();
        }
        CHECK.due("seeds differ", sums[0] != sums[1] || sums[1] != sums[2], true);
        for (int many = 1; many <= 4; many++) {
            long sum = 0;
            for (int i = 0; i < many; i++) {
                sum += sums[i];
            }
            CHECK.due("mean(100, " + many + ")", any.mean(100, many), true);
            CHECK.due("mean(100, " + many + ") top by bottom", any.top() * many, sum * any.bottom());
            CHECK.due("its bottom has no common divisor", many % any.bottom(), 0);
        }
        CHECK.due("the last is 9,999", x.mean(9980, 20), true);
        CHECK.due("mean(9999, 1)", x.mean(9999, 1), true);
        CHECK.refusedNo("the last above 9,999", x, 5, () -> x.mean(9981, 20));
        CHECK.refusedNo("the last above 9,999 by one", x, 5, () -> x.mean(9999, 2));
        CHECK.refusedNo("21 seeds", x, 5, () -> x.mean(0, 21));
        CHECK.refusedNo("no seeds", x, 5, () -> x.mean(0, 0));
        CHECK.refusedNo("seed -1", x, 5, () -> x.mean(-1, 2));
        CHECK.refusedNo("seed 10,000", x, 5, () -> x.mean(10000, 1));
        CHECK.refusedNo("far beyond", x, 5, () -> x.mean(Integer.MAX_VALUE, Integer.MAX_VALUE));
        MossSeats none = new MossSeats();
        CHECK.refusedNo("no YEARS", none, 8, () -> none.mean(0, 1));
        CHECK.refusedNo("5 ahead of 8", none, 5, () -> none.mean(0, 0));
        none.years(0);
        CHECK.fraction("nobody", none, none.mean(0, 7), 0, 1);
    }
}

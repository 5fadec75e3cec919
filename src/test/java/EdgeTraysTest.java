/** The boundary cases of a new object, STATUS, FRACTIONS and TRAYS (promises 1 to 8): a test for each sentence. */
public final class EdgeTraysTest {
    private static final Check CHECK = new Check("EdgeTraysTest");

    public static void main(String[] args) {
        newObject();
        fractions();
        whichTrays();
        sorts();
        laying();
        places();
        pouring();
        pouringOrder();
        CHECK.finish();
    }

    private static void newObject() {
        CHECK.sentence("An object is used for at most 512 calls", () -> {
            MossSeats x = new MossSeats();
            for (int i = 1; i <= 510; i++) {
                x.rule(i % 17);
            }
            CHECK.due("the 511th call", x.many(4), 510 % 17);
            CHECK.due("the 512th call", x.day(999), 0);
        });
        CHECK.sentence("Promise 1: TRAYS are MISSING", () -> {
            MossSeats x = new MossSeats();
            for (int t = 0; t <= 3; t++) {
                int tray = t;
                CHECK.refused("read of " + t, x, 3, () -> (int) x.read(tray, 0));
            }
        });
        CHECK.sentence("Promise 1: a WOOD of nothing (ODDS 4)", () -> {
            MossSeats x = new MossSeats();
            for (int what = 0; what <= 9; what++) {
                CHECK.good("many(" + what + ")", x, x.many(what), what == 4 ? 4 : 0);
            }
            CHECK.refused("no MATTER", x, 2, () -> x.matter(0, 0));
            CHECK.refused("no HOLD", x, 2, () -> x.hold(0, 0));
            CHECK.refused("no SITTER", x, 2, () -> x.sitter(0, 0));
            CHECK.refused("no NEWS", x, 2, () -> x.news(0, 0));
        });
        CHECK.sentence("Promise 1: no YEARS, MARKS", () -> {
            MossSeats x = new MossSeats();
            CHECK.refused("live", x, 8, () -> x.live(0));
            CHECK.refusedNo("mean", x, 8, () -> x.mean(0, 1));
            CHECK.refused("lived", x, 8, () -> x.lived(0));
            CHECK.refused("back", x, 8, x::back);
            CHECK.good("the first MARK", x, x.mark(), 1);
        });
        CHECK.sentence("Promise 1: an empty tape", () -> {
            MossSeats x = new MossSeats();
            CHECK.refused("one byte", x, 5, () -> x.wood(1));
            CHECK.refused("one byte of YEARS", x, 5, () -> x.years(1));
            CHECK.due("the first twenty", x.feed(0, 0, 0, 0, 0), 20);
        });
        CHECK.sentence("Promise 1: STATUS 0, the FRACTION 0 by 1", () -> {
            MossSeats x = new MossSeats();
            CHECK.due("STATUS", x.status(), 0);
            CHECK.due("top", x.top(), 0);
            CHECK.due("bottom", x.bottom(), 1);
        });
        CHECK.sentence("status(), fault(), feed(), top(), bottom() have none", () -> {
            MossSeats x = new MossSeats();
            x.many(10);
            CHECK.due("status", x.status(), 5);
            x.fault(0);
            x.fault(1);
            x.fault(2);
            CHECK.due("behind fault", x.status(), 5);
            x.top();
            x.bottom();
            CHECK.due("behind top and bottom", x.status(), 5);
            for (int i = 0; i < 46; i++) {
                x.feed(i, i, i, i, i);
            }
            CHECK.due("behind feed, one too many, too", x.status(), 5);
            x.many(0);
            x.feed(0, 0, 0, 0, 0);
            x.fault(-1);
            CHECK.due("behind a feed that has no room", x.status(), 0);
        });
    }

    private static void fractions() {
        CHECK.sentence("FRACTIONS are told without a common divisor", () -> {
            MossSeats x = new MossSeats();
            x.rule(8);
            CHECK.fraction("a half, thrice", x, x.lasts(3), 1, 8);
            x.rule(4);
            CHECK.fraction("12 by 16, twelve times", x, x.lasts(12), 531441, 16777216);
            CHECK.fraction("76 by 16", x, x.off(5, 1), 19, 4);
        });
        CHECK.sentence("FRACTIONS: without a common divisor, the largest", () -> {
            MossSeats x = new MossSeats();
            x.rule(1);
            CHECK.fraction("15 by 16, twelve times", x, x.lasts(12), 129746337890625L, 281474976710656L);
        });
        CHECK.sentence("FRACTIONS: the bottom above 0; 0 is 0 by 1", () -> {
            MossSeats x = CHECK.with("matter a pace 0; matter b pace 0 clear 100; sitter s mile 0 tall 9 for a; sitter t mile 0 tall 9 for b;");
            CHECK.fraction("who is DOWN", x, x.share(1), 0, 1);
            CHECK.fraction("a HEIGHT of 0", x, x.off(0, 8), 0, 1);
            x.rule(16);
            CHECK.fraction("it never goes on", x, x.lasts(12), 0, 1);
            x.turn(0, 1);
            x.years(0);
            CHECK.fraction("all HEIGHTS 0", x, x.mean(0, 20), 0, 1);
        });
        CHECK.sentence("FRACTIONS: 1 is 1 by 1", () -> {
            MossSeats x = CHECK.with("matter a pace 0; sitter s mile 0 tall 9 for a;");
            CHECK.fraction("he alone", x, x.share(0), 1, 1);
            CHECK.fraction("no DAYS", x, x.lasts(0), 1, 1);
        });
        CHECK.sentence("Promises 3, 4: of the FRACTION told latest", () -> {
            MossSeats x = new MossSeats();
            CHECK.fraction("the first", x, x.lasts(2), 9, 16);
            CHECK.refusedNo("a refused one tells none", x, 5, () -> x.lasts(13));
            x.stay(7, 1);
            CHECK.due("stay tells none: top", x.top(), 9);
            CHECK.due("stay tells none: bottom", x.bottom(), 16);
            CHECK.fraction("the next", x, x.off(7, 0), 7, 1);
        });
    }

    private static void whichTrays() {
        CHECK.sentence("TRAYS, 0 to 3", () -> {
            MossSeats x = new MossSeats();
            for (int t = 0; t <= 3; t++) {
                CHECK.good("tray " + t, x, x.tray(t, 3, 1));
                CHECK.good("write to " + t, x, x.write(t, 0, 10 + t));
            }
            for (int t = 0; t <= 3; t++) {
                CHECK.good("read of " + t, x, x.read(t, 0), 10 + t);
            }
        });
        CHECK.sentence("Promise 5: (1: no such TRAY)", () -> {
            MossSeats x = new MossSeats();
            CHECK.outside(4, t -> CHECK.refusedNo("tray " + t, x, 1, () -> x.tray(t, 0, 1)));
        });
        CHECK.sentence("Promise 6: (1)", () -> {
            MossSeats x = new MossSeats();
            CHECK.outside(4, t -> CHECK.refusedNo("write to " + t, x, 1, () -> x.write(t, 0, 1)));
        });
        CHECK.sentence("Promise 7: (1)", () -> {
            MossSeats x = new MossSeats();
            CHECK.outside(4, t -> CHECK.refused("read of " + t, x, 1, () -> (int) x.read(t, 0)));
        });
        CHECK.sentence("Promise 8: 1", () -> {
            MossSeats x = laid();
            CHECK.outside(4, t -> {
                CHECK.refusedNo("pour from " + t, x, 1, () -> x.pour(t, 0, 0, 0, 1));
                CHECK.refusedNo("pour to " + t, x, 1, () -> x.pour(0, 0, t, 0, 1));
            });
        });
        CHECK.sentence("TRAYS are MISSING at first", () -> {
            MossSeats x = new MossSeats();
            for (int t = 0; t <= 3; t++) {
                int tray = t;
                CHECK.refusedNo("write to " + t, x, 3, () -> x.write(tray, 0, 1));
                CHECK.refused("read of " + t, x, 3, () -> (int) x.read(tray, 0));
                CHECK.refused("copyHeights to " + t, x, 3, () -> x.copyHeights(tray));
                CHECK.refused("laws of " + t, x, 3, () -> x.laws(tray, 0));
                CHECK.refused("lawOf of " + t, x, 3, () -> x.lawOf(tray, 0, 0));
            }
            x.tray(2, 0, 0);
            CHECK.refused("the others still are", x, 3, () -> (int) x.read(1, 0));
            CHECK.refused("the last one still is", x, 3, () -> (int) x.read(3, 0));
        });
    }

    private static void sorts() {
        CHECK.sentence("8 bits (sort 0), 16 (1), 32 (2) or 64 (3)", () -> {
            MossSeats x = new MossSeats();
            for (int sort = 0; sort <= 3; sort++) {
                long most = (1L << (8 << sort) - 1) - 1;
                CHECK.good("sort " + sort, x, x.tray(0, sort, 2));
                x.write(0, 0, most);
                x.write(0, 1, -most - 1);
                CHECK.good("the most of sort " + sort, x, x.read(0, 0), most);
                CHECK.good("the least of sort " + sort, x, x.read(0, 1), -most - 1);
            }
        });
        CHECK.sentence("what is written is cut to these", () -> {
            MossSeats x = new MossSeats();
            for (int sort = 0; sort <= 3; sort++) {
                int bits = 8 << sort;
                long most = (1L << bits - 1) - 1;
                x.tray(0, sort, 6);
                long[] written = {most + 1, -most - 2, Long.MAX_VALUE, Long.MIN_VALUE, 0x0102030405060708L, 0xFFFEFDFCFBFAF9F8L};
                long[] due = {-most - 1, most, bits == 64 ? most : -1, bits == 64 ? Long.MIN_VALUE : 0,
                    0x0102030405060708L & (bits == 64 ? -1L : (1L << bits) - 1), 0xFFFEFDFCFBFAF9F8L << 64 - bits >> 64 - bits};
                for (int i = 0; i < written.length; i++) {
                    CHECK.good("write " + written[i], x, x.write(0, i, written[i]));
                    CHECK.good(written[i] + " by sort " + sort, x, x.read(0, i), due[i]);
                }
            }
        });
        CHECK.sentence("with sign", () -> {
            MossSeats x = new MossSeats();
            for (int sort = 0; sort <= 3; sort++) {
                x.tray(0, sort, 1);
                x.write(0, 0, -1);
                CHECK.good("-1 by sort " + sort, x, x.read(0, 0), -1);
            }
        });
        CHECK.sentence("STATUS 1: (or sort)", () -> {
            MossSeats x = laid();
            CHECK.outside(4, sort -> CHECK.refusedNo("sort " + sort, x, 1, () -> x.tray(0, sort, 1)));
            CHECK.good("the TRAY is as it was", x, x.read(0, 4), 5);
        });
    }

    /** TRAYS 0 and 1 with 1 to 5 and 11 to 15, of 16 bits; 2 and 3 are MISSING. */
    private static MossSeats laid() {
        MossSeats x = new MossSeats();
        for (int t = 0; t <= 1; t++) {
            x.tray(t, 1, 5);
            for (int i = 0; i < 5; i++) {
                x.write(t, i, 10 * t + i + 1);
            }
        }
        return x;
    }

    private static void holds(MossSeats x, int tray, long... due) {
        for (int i = 0; i < due.length; i++) {
            CHECK.good("TRAY " + tray + " at " + i, x, x.read(tray, i), due[i]);
        }
        CHECK.refused("TRAY " + tray + " ends", x, 4, () -> (int) x.read(tray, due.length));
    }

    private static void laying() {
        CHECK.sentence("Promise 5: so many numbers (at most 60)", () -> {
            MossSeats x = new MossSeats();
            CHECK.good("60", x, x.tray(0, 0, 60));
            CHECK.good("the 60th", x, x.read(0, 59), 0);
            CHECK.refused("no 61st", x, 4, () -> (int) x.read(0, 60));
            CHECK.good("59", x, x.tray(0, 0, 59));
            CHECK.refused("no 60th then", x, 4, () -> (int) x.read(0, 59));
        });
        CHECK.sentence("Promise 5: (at most 60; 5)", () -> {
            MossSeats x = laid();
            for (int many : new int[] {61, 62, 256, 65536, Integer.MAX_VALUE}) {
                CHECK.refusedNo(many + " numbers", x, 5, () -> x.tray(0, 1, many));
            }
            holds(x, 0, 1, 2, 3, 4, 5);
        });
        CHECK.sentence("Promise 5: 6: below 0 (a TRAY's length)", () -> {
            MossSeats x = laid();
            for (int many : new int[] {-1, -60, -256, Integer.MIN_VALUE}) {
                CHECK.refusedNo(many + " numbers", x, 6, () -> x.tray(1, 1, many));
            }
            holds(x, 1, 11, 12, 13, 14, 15);
        });
        CHECK.sentence("Promise 5: 1 is asked ahead of 5 and 6", () -> {
            MossSeats x = laid();
            CHECK.refusedNo("no such TRAY, 61", x, 1, () -> x.tray(4, 0, 61));
            CHECK.refusedNo("no such TRAY, -1", x, 1, () -> x.tray(-1, 0, -1));
            CHECK.refusedNo("no such sort, 61", x, 1, () -> x.tray(0, 4, 61));
            CHECK.refusedNo("no such sort, -1", x, 1, () -> x.tray(0, -1, -1));
        });
        CHECK.sentence("Promise 5: a row of no numbers", () -> {
            MossSeats x = laid();
            CHECK.good("none", x, x.tray(0, 3, 0));
            CHECK.refused("it is there, without places", x, 4, () -> (int) x.read(0, 0));
            CHECK.refusedNo("nothing can be written", x, 4, () -> x.write(0, 0, 1));
        });
        CHECK.sentence("Promise 5: all 0", () -> {
            MossSeats x = laid();
            CHECK.good("as long as it was", x, x.tray(0, 1, 5));
            holds(x, 0, 0, 0, 0, 0, 0);
            x.tray(1, 1, 2);
            x.tray(1, 1, 6);
            holds(x, 1, 0, 0, 0, 0, 0, 0);
        });
        CHECK.sentence("Promise 5: it is of the new sort", () -> {
            MossSeats x = laid();
            x.tray(0, 0, 1);
            x.write(0, 0, 255);
            CHECK.good("8 bits", x, x.read(0, 0), -1);
            x.tray(0, 2, 1);
            x.write(0, 0, 70000);
            CHECK.good("32 bits", x, x.read(0, 0), 70000);
        });
    }

    private static void places() {
        CHECK.sentence("Promise 6: a place of a TRAY, the first and the last", () -> {
            MossSeats x = laid();
            CHECK.good("the first", x, x.write(0, 0, 7));
            CHECK.good("the last", x, x.write(0, 4, 9));
            holds(x, 0, 7, 2, 3, 4, 9);
            holds(x, 1, 11, 12, 13, 14, 15);
        });
        CHECK.sentence("Promise 6: (3)", () -> {
            MossSeats x = laid();
            CHECK.refusedNo("MISSING", x, 3, () -> x.write(2, 0, 1));
            CHECK.refusedNo("MISSING, and no such place", x, 3, () -> x.write(3, -1, 1));
        });
        CHECK.sentence("Promise 6: (4)", () -> {
            MossSeats x = laid();
            CHECK.outside(5, place -> CHECK.refusedNo("place " + place, x, 4, () -> x.write(0, place, 99)));
            holds(x, 0, 1, 2, 3, 4, 5);
        });
        CHECK.sentence("Promise 7: a place of a TRAY, the first and the last", () -> {
            MossSeats x = laid();
            CHECK.good("the first", x, x.read(1, 0), 11);
            CHECK.good("the last", x, x.read(1, 4), 15);
        });
        CHECK.sentence("Promise 7: STATUS tells NONE from -1", () -> {
            MossSeats x = laid();
            x.write(0, 0, -1);
            x.many(10);
            CHECK.good("-1 is a number", x, x.read(0, 0), -1);
            CHECK.refused("NONE is none", x, 4, () -> (int) x.read(0, 5));
        });
        CHECK.sentence("Promise 7: (3)", () -> {
            MossSeats x = laid();
            CHECK.refused("MISSING", x, 3, () -> (int) x.read(2, 0));
            CHECK.refused("MISSING, and no such place", x, 3, () -> (int) x.read(3, 99));
        });
        CHECK.sentence("Promise 7: (4)", () -> {
            MossSeats x = laid();
            CHECK.outside(5, place -> CHECK.refused("place " + place, x, 4, () -> (int) x.read(0, place)));
        });
    }

    private static void pouring() {
        CHECK.sentence("Promise 8: from place i on ... to place j on of another one", () -> {
            MossSeats x = laid();
            CHECK.good("two", x, x.pour(0, 1, 1, 3, 2));
            holds(x, 1, 11, 12, 13, 2, 3);
            holds(x, 0, 1, 2, 3, 4, 5);
        });
        CHECK.sentence("Promise 8: so many numbers, all", () -> {
            MossSeats x = laid();
            CHECK.good("five of five", x, x.pour(1, 0, 0, 0, 5));
            holds(x, 0, 11, 12, 13, 14, 15);
            x.tray(2, 3, 60);
            x.tray(3, 3, 60);
            x.write(2, 0, 8);
            x.write(2, 59, 9);
            CHECK.good("60 of 60", x, x.pour(2, 0, 3, 0, 60));
            CHECK.good("the first of 60", x, x.read(3, 0), 8);
            CHECK.good("the last of 60", x, x.read(3, 59), 9);
        });
        CHECK.sentence("Promise 8: so many numbers, one", () -> {
            MossSeats x = laid();
            CHECK.good("the last to the first", x, x.pour(0, 4, 1, 0, 1));
            CHECK.good("the first to the last", x, x.pour(0, 0, 1, 4, 1));
            holds(x, 1, 5, 12, 13, 14, 1);
        });
        CHECK.sentence("Promise 8: so many numbers, none", () -> {
            MossSeats x = laid();
            CHECK.good("none", x, x.pour(0, 0, 1, 0, 0));
            CHECK.good("none, right behind the last places", x, x.pour(0, 5, 1, 5, 0));
            holds(x, 1, 11, 12, 13, 14, 15);
            x.tray(2, 0, 0);
            CHECK.good("none of none", x, x.pour(2, 0, 2, 0, 0));
        });
        CHECK.sentence("Promise 8: or the same, as they were: up", () -> {
            MossSeats x = laid();
            CHECK.good("to behind", x, x.pour(0, 0, 0, 1, 4));
            holds(x, 0, 1, 1, 2, 3, 4);
        });
        CHECK.sentence("Promise 8: or the same, as they were: down", () -> {
            MossSeats x = laid();
            CHECK.good("to ahead", x, x.pour(0, 1, 0, 0, 4));
            holds(x, 0, 2, 3, 4, 5, 5);
        });
        CHECK.sentence("Promise 8: or the same, where they stand", () -> {
            MossSeats x = laid();
            CHECK.good("all", x, x.pour(0, 0, 0, 0, 5));
            holds(x, 0, 1, 2, 3, 4, 5);
        });
    }

    private static void pouringOrder() {
        CHECK.sentence("Promise 8: 1 is asked ahead of 3, 11, 6, 4", () -> {
            MossSeats x = laid();
            x.tray(2, 0, 5);
            CHECK.refusedNo("the other one is MISSING", x, 1, () -> x.pour(4, 0, 3, 0, 1));
            CHECK.refusedNo("the first one is MISSING", x, 1, () -> x.pour(3, 0, 4, 0, 1));
            CHECK.refusedNo("below 0", x, 1, () -> x.pour(0, 0, -1, 0, -1));
            CHECK.refusedNo("no such place", x, 1, () -> x.pour(-1, 0, 0, 9, 1));
        });
        CHECK.sentence("Promise 8: 3 (either)", () -> {
            MossSeats x = laid();
            CHECK.refusedNo("from", x, 3, () -> x.pour(2, 0, 1, 0, 1));
            CHECK.refusedNo("to", x, 3, () -> x.pour(0, 0, 3, 0, 1));
            CHECK.refusedNo("both", x, 3, () -> x.pour(2, 0, 2, 0, 0));
        });
        CHECK.sentence("Promise 8: 3 is asked ahead of 6, 4", () -> {
            MossSeats x = laid();
            CHECK.refusedNo("below 0", x, 3, () -> x.pour(2, 0, 1, 0, -1));
            CHECK.refusedNo("no such place", x, 3, () -> x.pour(0, 9, 3, 0, 1));
        });
        CHECK.sentence("Promise 8: 11: TRAYS of unlike sorts", () -> {
            for (int a = 0; a <= 3; a++) {
                for (int b = 0; b <= 3; b++) {
                    MossSeats x = new MossSeats();
                    x.tray(0, a, 2);
                    x.tray(1, b, 2);
                    x.write(0, 0, 7);
                    if (a == b) {
                        CHECK.good("sorts alike", x, x.pour(0, 0, 1, 1, 1));
                    } else {
                        CHECK.refusedNo("sorts " + a + " and " + b, x, 11, () -> x.pour(0, 0, 1, 1, 1));
                    }
                    holds(x, 1, 0, a == b ? 7 : 0);
                }
            }
        });
        CHECK.sentence("Promise 8: 11 is asked ahead of 6, 4", () -> {
            MossSeats x = laid();
            x.tray(2, 0, 5);
            CHECK.refusedNo("below 0", x, 11, () -> x.pour(0, 0, 2, 0, -1));
            CHECK.refusedNo("no such place", x, 11, () -> x.pour(0, 0, 2, 9, 1));
        });
        CHECK.sentence("Promise 8: 6", () -> {
            MossSeats x = laid();
            CHECK.refusedNo("-1", x, 6, () -> x.pour(0, 1, 1, 1, -1));
            CHECK.refusedNo("the least", x, 6, () -> x.pour(0, 0, 1, 0, Integer.MIN_VALUE));
            CHECK.refusedNo("ahead of 4", x, 6, () -> x.pour(0, -1, 1, 9, -1));
            holds(x, 1, 11, 12, 13, 14, 15);
        });
        CHECK.sentence("Promise 8: 4, of the first TRAY", () -> {
            MossSeats x = laid();
            x.tray(2, 1, 60);
            CHECK.refusedNo("one too many", x, 4, () -> x.pour(0, 0, 2, 0, 6));
            CHECK.refusedNo("one too many from behind", x, 4, () -> x.pour(0, 4, 2, 0, 2));
            CHECK.outside(5, i -> CHECK.refusedNo("place " + i, x, 4, () -> x.pour(0, i, 2, 0, 1)));
            CHECK.refusedNo("place 6, none", x, 4, () -> x.pour(0, 6, 2, 0, 0));
            CHECK.refusedNo("place -1, none", x, 4, () -> x.pour(0, -1, 2, 0, 0));
            CHECK.refusedNo("the most", x, 4, () -> x.pour(0, 1, 2, 0, Integer.MAX_VALUE));
            CHECK.good("nothing came", x, x.read(2, 0), 0);
        });
        CHECK.sentence("Promise 8: 4, of the other TRAY", () -> {
            MossSeats x = laid();
            x.tray(2, 1, 60);
            CHECK.refusedNo("one too many", x, 4, () -> x.pour(2, 0, 1, 0, 6));
            CHECK.refusedNo("one too many from behind", x, 4, () -> x.pour(2, 0, 1, 4, 2));
            CHECK.outside(5, j -> CHECK.refusedNo("place " + j, x, 4, () -> x.pour(2, 0, 1, j, 1)));
            CHECK.refusedNo("place 6, none", x, 4, () -> x.pour(2, 0, 1, 6, 0));
            CHECK.refusedNo("place -1, none", x, 4, () -> x.pour(2, 0, 1, -1, 0));
            holds(x, 1, 11, 12, 13, 14, 15);
        });
    }
}

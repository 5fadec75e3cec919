/** Promises 1 to 8: a new object, STATUS, the FRACTION, TRAYS. */
public final class TraysTest {
    private static final Check CHECK = new Check("TraysTest");

    public static void main(String[] args) {
        promise1NewObject();
        promise2Status();
        promise3And4Fraction();
        promise5Tray();
        promise6Write();
        promise7Read();
        promise8Pour();
        CHECK.finish();
    }

    private static void promise1NewObject() {
        MossSeats x = new MossSeats();
        CHECK.due("NONE", MossSeats.NONE, -1);
        CHECK.due("new status()", x.status(), 0);
        CHECK.due("new top()", x.top(), 0);
        CHECK.due("new bottom()", x.bottom(), 1);
        CHECK.due("new fault(0)", x.fault(0), -1);
        CHECK.due("new fault(1)", x.fault(1), -1);
        for (int what = 0; what <= 9; what++) {
            CHECK.due("new many(" + what + ")", x.many(what), what == 4 ? 4 : 0);
        }
        for (int tray = 0; tray <= 3; tray++) {
            CHECK.due("new read()", x.read(tray, 0), -1);
            CHECK.due("a new TRAY is MISSING", x.status(), 3);
        }
        CHECK.refused("new live(0)", x, 8, () -> x.live(0));
        CHECK.refused("new lived(0)", x, 8, () -> x.lived(0));
        CHECK.refused("new back()", x, 8, x::back);
        CHECK.refused("the tape is empty", x, 5, () -> x.wood(1));
        MossSeats other = new MossSeats();
        other.rule(9);
        other.tray(0, 0, 3);
        CHECK.due("objects share nothing", x.many(4), 4);
        CHECK.due("objects share no TRAYS", x.read(0, 0), -1);
        CHECK.due("objects share no TRAYS, STATUS", x.status(), 3);
    }

    private static void promise2Status() {
        MossSeats x = new MossSeats();
        x.many(99);
        CHECK.due("status() of the latest", x.status(), 5);
        CHECK.due("status() has none itself", x.status(), 5);
        x.top();
        x.bottom();
        x.fault(0);
        x.fault(7);
        x.feed(1, 2, 3, 4, 5);
        CHECK.due("status() behind calls that have none", x.status(), 5);
        for (int i = 0; i < 50; i++) {
            x.feed(0, 0, 0, 0, 0);
        }
        CHECK.due("a feed() too many has none either", x.status(), 5);
        x.many(0);
        CHECK.due("status() behind a good call", x.status(), 0);
        x.many(99);
        x.rule(4);
        CHECK.due("status() behind a good call that answers true", x.status(), 0);
        x.hold(0, 9);
        CHECK.due("the first STATUS that holds", x.status(), 2);
    }

    private static void promise3And4Fraction() {
        MossSeats x = new MossSeats();
        x.rule(4);
        CHECK.fraction("lasts(2)", x, x.lasts(2), 9, 16);
        x.lasts(13);
        x.many(0);
        CHECK.due("top() stays", x.top(), 9);
        CHECK.due("bottom() stays", x.bottom(), 16);
        CHECK.due("top() has no STATUS", x.status(), 0);
        x.rule(16);
        CHECK.fraction("0 is 0 by 1", x, x.lasts(12), 0, 1);
        x.rule(1);
        CHECK.fraction("a large one", x, x.lasts(12), 129746337890625L, 281474976710656L);
    }

    private static void promise5Tray() {
        MossSeats x = new MossSeats();
        CHECK.due("tray(0, 3, 60)", x.tray(0, 3, 60), true);
        CHECK.due("its STATUS", x.status(), 0);
        CHECK.due("all are 0", x.read(0, 59), 0);
        CHECK.due("no 61st", x.read(0, 60), -1);
        CHECK.due("no 61st, STATUS", x.status(), 4);
        x.write(0, 5, 77);
        CHECK.due("again", x.tray(0, 1, 6), true);
        CHECK.due("all are 0 again", x.read(0, 5), 0);
        CHECK.due("it is shorter", x.read(0, 6), -1);
        x.write(0, 5, 77);
        CHECK.refusedNo("tray(4, ..)", x, 1, () -> x.tray(4, 0, 1));
        CHECK.refusedNo("tray(-1, ..)", x, 1, () -> x.tray(-1, 0, 1));
        CHECK.refusedNo("sort 4", x, 1, () -> x.tray(0, 4, 1));
        CHECK.refusedNo("sort -1", x, 1, () -> x.tray(0, -1, 99));
        CHECK.refusedNo("61 numbers", x, 5, () -> x.tray(0, 0, 61));
        CHECK.refusedNo("too many numbers by far", x, 5, () -> x.tray(0, 0, Integer.MAX_VALUE));
        CHECK.refusedNo("-1 numbers", x, 6, () -> x.tray(0, 0, -1));
        CHECK.refusedNo("too few numbers by far", x, 6, () -> x.tray(0, 0, Integer.MIN_VALUE));
        CHECK.due("refused: as it was", x.read(0, 5), 77);
        CHECK.due("no numbers", x.tray(3, 2, 0), true);
        CHECK.due("it is not MISSING", x.read(3, 0), -1);
        CHECK.due("it is not MISSING, STATUS", x.status(), 4);
    }

    private static void promise6Write() {
        MossSeats x = new MossSeats();
        long v = 0x123456789ABCDEFAL;
        long[] cut = {(byte) v, (short) v, (int) v, v};
        for (int sort = 0; sort <= 3; sort++) {
            x.tray(sort, sort, 3);
            CHECK.due("write()", x.write(sort, 2, v), true);
            CHECK.due("write() STATUS", x.status(), 0);
            CHECK.due("cut to sort " + sort, x.read(sort, 2), cut[sort]);
            CHECK.due("the others stay", x.read(sort, 1), 0);
            x.write(sort, 0, 1L << (8 << sort) - 1);
            CHECK.due("the sign of sort " + sort, x.read(sort, 0), -1L << (8 << sort) - 1);
            x.write(sort, 0, -5);
            CHECK.due("below 0", x.read(sort, 0), -5);
        }
        CHECK.refusedNo("write(4, ..)", x, 1, () -> x.write(4, 0, 1));
        CHECK.refusedNo("write(-1, ..)", x, 1, () -> x.write(-1, 0, 1));
        CHECK.refusedNo("place 3 of 3", x, 4, () -> x.write(0, 3, 1));
        CHECK.refusedNo("place -1", x, 4, () -> x.write(0, -1, 1));
        MossSeats fresh = new MossSeats();
        CHECK.refusedNo("MISSING goes first", fresh, 3, () -> fresh.write(2, -1, 1));
    }

    private static void promise7Read() {
        MossSeats x = new MossSeats();
        x.tray(1, 3, 2);
        x.write(1, 1, Long.MIN_VALUE);
        CHECK.due("read(1, 1)", x.read(1, 1), Long.MIN_VALUE);
        x.write(1, 0, -1);
        x.many(99);
        CHECK.due("read() of a -1", x.read(1, 0), -1);
        CHECK.due("STATUS tells NONE from -1", x.status(), 0);
        CHECK.due("read(4, 0)", x.read(4, 0), -1);
        CHECK.due("read(4, 0) STATUS", x.status(), 1);
        CHECK.due("read(0, 0)", x.read(0, 0), -1);
        CHECK.due("read(0, 0) STATUS", x.status(), 3);
        CHECK.due("read(1, 2)", x.read(1, 2), -1);
        CHECK.due("read(1, 2) STATUS", x.status(), 4);
        CHECK.due("read(1, -1)", x.read(1, -1), -1);
        CHECK.due("read(1, -1) STATUS", x.status(), 4);
    }

    private static MossSeats poured(int i, int to, int j, int many) {
        MossSeats x = new MossSeats();
        for (int tray = 0; tray <= 1; tray++) {
            x.tray(tray, 1, 5);
            for (int k = 0; k < 5; k++) {
                x.write(tray, k, 10 * tray + k + 1);
            }
        }
        CHECK.due("pour()", x.pour(0, i, to, j, many), true);
        CHECK.due("pour() STATUS", x.status(), 0);
        return x;
    }

    private static void row(MossSeats x, int tray, long... due) {
        for (int k = 0; k < due.length; k++) {
            CHECK.due("poured, place " + k, x.read(tray, k), due[k]);
        }
    }

    private static void promise8Pour() {
        row(poured(1, 1, 2, 3), 1, 11, 12, 2, 3, 4);
        row(poured(1, 1, 2, 3), 0, 1, 2, 3, 4, 5);
        row(poured(0, 0, 1, 4), 0, 1, 1, 2, 3, 4);
        row(poured(1, 0, 0, 4), 0, 2, 3, 4, 5, 5);
        row(poured(0, 1, 0, 5), 1, 1, 2, 3, 4, 5);
        row(poured(5, 1, 5, 0), 1, 11, 12, 13, 14, 15);
        MossSeats x = poured(0, 0, 0, 0);
        x.tray(2, 0, 5);
        CHECK.refusedNo("pour from 4", x, 1, () -> x.pour(4, 0, 0, 0, 1));
        CHECK.refusedNo("pour to -1", x, 1, () -> x.pour(0, 0, -1, 0, 1));
        CHECK.refusedNo("pour from MISSING", x, 3, () -> x.pour(3, 0, 2, 0, -1));
        CHECK.refusedNo("pour to MISSING", x, 3, () -> x.pour(0, 0, 3, 0, -1));
        CHECK.refusedNo("unlike sorts ahead of a bad length", x, 11, () -> x.pour(0, 9, 2, 9, -1));
        CHECK.refusedNo("below 0 ahead of a bad place", x, 6, () -> x.pour(0, 9, 1, 0, -1));
        CHECK.refusedNo("no such place from", x, 4, () -> x.pour(0, 3, 1, 0, 3));
        CHECK.refusedNo("no such place to", x, 4, () -> x.pour(0, 0, 1, 3, 3));
        CHECK.refusedNo("place -1 from", x, 4, () -> x.pour(0, -1, 1, 0, 1));
        CHECK.refusedNo("place -1 to", x, 4, () -> x.pour(0, 0, 1, -1, 1));
        CHECK.refusedNo("too many by far", x, 4, () -> x.pour(0, 2, 1, 2, Integer.MAX_VALUE));
        CHECK.refusedNo("places beyond all numbers", x, 4, () -> x.pour(0, Integer.MAX_VALUE, 1, Integer.MAX_VALUE, 1));
        row(x, 0, 1, 2, 3, 4, 5);
        row(x, 1, 11, 12, 13, 14, 15);
    }
}

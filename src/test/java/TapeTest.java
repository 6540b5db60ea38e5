/** Promises 1 to 3, and 38 of the tape. */
public final class TapeTest {
    public static void main(String[] args) {
        aNewObject();
        feeding();
        ending();
        bytesInOrder();
        Check.finish();
    }

    private static void aNewObject() {
        CombedOut x = new CombedOut();
        int[] counts = {0, 0, 0, 0, 9, 0};
        for (int what = 0; what < counts.length; what++) {
            Check.due("new: count(" + what + ")", x.count(what), counts[what]);
        }
        Check.due("new: count(-1)", x.count(-1), -1);
        Check.due("new: count(6)", x.count(6), -1);
        Check.due("new: fault()", x.fault(), 0);
        for (int what = 0; what <= 6; what++) {
            Check.due("new: now(" + what + ")", x.now(what), 0);
        }
        Check.due("new: rounded()", x.rounded(), -1);
        Check.due("new: bedded()", x.bedded(), -1);
        Check.due("new: ask()", x.ask(), -1);
        Check.due("new: byteAt(0)", x.byteAt(0), -1);
        Check.due("new: told(0)", x.told(0), -1);
        Check.due("new: said(-1)", x.said(-1), -1);
        Check.due("new: undo()", x.undo(), -1);
        Check.due("new: restore(0)", x.restore(0), false);
        Check.due("new: hardest()", x.hardest(), -1);
    }

    private static void feeding() {
        CombedOut x = new CombedOut();
        for (int i = 1; i <= 47; i++) {
            Check.due("feed " + i, x.feed(0, 0, 0, 0, 0), 20 * i);
        }
        Check.due("feed 48", x.feed(0, 0, 0, 0, 0), -1);
        Check.due("count(5) of a full tape", x.count(5), 940);
        x.end(921);
        Check.due("feed behind 921", x.feed(0, 0, 0, 0, 0), -1);
        Check.due("count(5) behind that", x.count(5), 921);
        x.end(920);
        Check.due("feed behind 920", x.feed(0, 0, 0, 0, 0), 940);
    }

    private static void ending() {
        CombedOut x = new CombedOut();
        Check.due("end(0) of an empty tape", x.end(0), true);
        Check.due("end(1) of an empty tape", x.end(1), false);
        x.feed(1, 2, 3, 4, 5);
        Check.due("end(-1)", x.end(-1), false);
        Check.due("end(21)", x.end(21), false);
        Check.due("count(5)", x.count(5), 20);
        Check.due("end(20)", x.end(20), true);
        Check.due("end(7)", x.end(7), true);
        Check.due("end(8)", x.end(8), false);
        Check.due("count(5) then", x.count(5), 7);
        Check.due("end min", x.end(Integer.MIN_VALUE), false);
        Check.due("end max", x.end(Integer.MAX_VALUE), false);
    }

    private static void bytesInOrder() {
        CombedOut x = Check.of("thing a 1 1;thing b 1 1;thing c 1 1;person p 9;caught p a;caught p b;caught p c;");
        x.feed(0x00010200, 0, 0, 0, 0);
        x.end(3);
        Check.due("fits() of bytes 0 1 2", x.fits(), 1);
        x.feed(0x00010280, 0, 0, 0, 0);
        x.end(4);
        Check.due("fits() with a byte above 127", x.fits(), -1);
        x.feed(0x02000000, 0, 0, 0, 0);
        x.end(1);
        x.feed(0x00010200, 0, 0, 0, 0);
        x.end(4);
        Check.due("fits() of bytes 2 0 1 2", x.fits(), 0);
    }
}

/** Promises 23 to 32: the image, what is told, shelves. */
public final class ShelvesTest {
    public static void main(String[] args) {
        image();
        imageOfTalk();
        count();
        keep();
        rows();
        elements();
        copies();
        voices();
        tosses();
        Due.finish();
    }

    private static void image() {
        ElevenOne x = new ElevenOne();
        Due.due("restore without an image", x.restore(), -3);
        Due.due("image of nothing", x.image(), 0);
        x.juror(1, 0, 0, -1);
        Due.due("restore nothing", x.restore(), 0);
        Due.due("no jurors", x.count(1), 0);
        x.thing(5);
        Due.law(x, "t");
        x.juror(2302, -3, 9, 0);
        x.juror(1, 99, 0, -1);
        x.holds(0, 1);
        x.set(0, 2);
        x.set(1, 1);
        x.set(2, 1);
        x.set(3, 77);
        x.begin();
        x.go(2);
        Due.due("image", x.image(), 2);
        Due.due("restore at once", x.restore(), 2);
        Due.due("the talk stays", x.talk(3), 2);
        x.go(3);
        x.thing(7);
        Due.law(x, "p");
        x.holds(0, 2);
        x.juror(5, 0, 0, 1);
        x.set(0, 3);
        x.set(1, 0);
        x.set(2, 0);
        x.set(3, 5);
        x.keep(3, 1, 2);
        for (int i = 0; i < 2; i++) {
            Due.due("restore", x.restore(), 2);
            Due.due("things", x.count(0), 1);
            Due.due("jurors", x.count(1), 2);
            Due.due("laws", x.count(2), 1);
            Due.due("spoken", x.count(3), 5);
            Due.due("turns", x.talk(3), 2);
            Due.due("minute", x.talk(0), 3);
            Due.due("held", x.of(0, 6), 1);
            Due.due("told", x.holds(0, 0), 1);
            Due.due("needed", x.set(0, 12), 2);
            Due.due("leader", x.set(1, 5), 1);
            Due.due("hands", x.set(2, 0), 1);
            Due.due("limit", x.set(3, 9), 77);
            Due.due("shelves stay", x.voice(3), 5);
            Due.due("the number on a shelf stays", x.juror(1, 0, 0, 0), 2);
        }
        Due.due("no law 1", x.juror(1, 0, 0, 1), -1);
        Due.law(x, "9");
        x.juror(1, 0, 0, 1);
        Due.due("a law told anew", x.leans(3), 9);
    }

    private static void imageOfTalk() {
        ElevenOne x = new ElevenOne();
        x.thing(10);
        x.juror(1401, 5, 0, -1);
        x.juror(7401, 99, 0, -1);
        x.juror(2401, 98, 0, -1);
        x.juror(401, -99, 0, -1);
        x.holds(0, 1);
        x.set(1, 11);
        x.begin();
        // Behind three turns: all hold the thing, juror 1 gave in to yes, and 3 of 4 saying it pushed 2 each.
        x.go(3);
        x.image();
        x.begin();
        x.restore();
        Due.due("the leader who isn't there is told still", x.set(1, 0), 11);
        Due.due("held", x.of(2, 6), 1);
        Due.due("pushed", x.of(2, 7), 2);
        Due.due("leans", x.leans(2), 12);
        Due.due("slip", x.of(1, 8), 1);
        Due.due("gave in", x.of(1, 9), 1);
        Due.due("the next turn", x.go(1), -4);
        Due.due("minute", x.talk(0), 4);
        Due.due("slip behind it", x.of(1, 8), 1);
    }

    private static void count() {
        ElevenOne x = new ElevenOne();
        x.thing(5);
        x.thing(-9);
        x.thing(1);
        x.juror(1, 0, 0, -1);
        x.juror(1, 0, 0, -1);
        x.holds(0, 6);
        x.holds(1, 3);
        Due.law(x, "t");
        int[] want = {3, 2, 1, -3, 2};
        for (int what = 0; what < want.length; what++) {
            Due.due("count " + what, x.count(what), want[what]);
        }
        Due.due("count 5", x.count(5), Due.MISSING);
        Due.due("count -1", x.count(-1), Due.MISSING);
    }

    private static void keep() {
        ElevenOne x = new ElevenOne();
        x.thing(5);
        Due.due("no juror", x.keep(0, 1, 0), -1);
        x.juror(1007, 0, 0, -1);
        Due.due("keep", x.keep(0, 1, 0), 0);
        Due.due("shelf 7", x.keep(7, 1, 0), 0);
        Due.due("shelf 8", x.keep(8, 1, 0), -1);
        Due.due("shelf -1", x.keep(-1, 0, 0), -1);
        Due.due("what 2", x.keep(0, 2, 0), -1);
        Due.due("what -1", x.keep(0, -1, 0), -1);
        Due.due("juror 1", x.keep(0, 1, 1), -1);
        Due.due("juror -1", x.keep(0, 1, -1), -1);
        x.holds(0, 1);
        Due.due("as it was then", x.voice(0), 7);
        x.keep(0, 1, 0);
        Due.due("as it is now", x.voice(0), 8);
        Due.due("the other shelf", x.voice(7), 7);
        Due.due("nothing", x.keep(0, 0, 99), 0);
        Due.due("nothing is held", x.voice(0), -11);
        Due.due("a row in place of a juror", x.row(7, 0, 1), 0);
        Due.due("a row", x.voice(7), -12);
        Due.due("nothing in place of a row", x.keep(7, 0, -5), 0);
        Due.due("nothing is held", x.put(7, 0, 0), -11);
        x.row(7, 0, 1);
        x.keep(7, 1, 0);
        Due.due("a juror in place of a row", x.put(7, 0, 0), -12);
    }

    private static void rows() {
        ElevenOne x = new ElevenOne();
        Due.due("row", x.row(0, 0, 100), 0);
        Due.due("101", x.row(0, 0, 101), -1);
        Due.due("below 0", x.row(0, 0, -1), -14);
        Due.due("lowest", x.row(0, 0, Integer.MIN_VALUE), -14);
        Due.due("sort 3", x.row(0, 3, 1), -1);
        Due.due("sort -1", x.row(0, -1, -1), -1);
        Due.due("shelf 8", x.row(8, 0, -1), -1);
        Due.due("shelf -1", x.row(-1, 0, 1), -1);
        Due.due("a refused row changes nothing", x.put(0, 99, 1), 0);
        Due.due("place 100", x.put(0, 100, 1), -13);
        Due.due("place -1", x.put(0, -1, 1), -13);
        Due.due("shelf 8", x.put(8, 0, 1), -1);
        Due.due("shelf -1", x.put(-1, 0, 1), -1);
        Due.due("nothing", x.put(1, 0, 1), -11);
        Due.due("a row of none", x.row(1, 1, 0), 0);
        Due.due("no place", x.put(1, 0, 1), -13);
        x.row(0, 2, 100);
        Due.same("a new row is 0", Due.element(x, 0, 99), "0");
    }

    private static void elements() {
        ElevenOne x = new ElevenOne();
        int[] v = {127, 128, 255, 256, -129, 32767, 32768, 65535, 65536, Integer.MIN_VALUE, Integer.MAX_VALUE};
        for (int sort = 0; sort < 3; sort++) {
            x.row(sort, sort, v.length);
            for (int i = 0; i < v.length; i++) {
                x.put(sort, i, v[i]);
                long want = sort == 0 ? (byte) v[i] : sort == 1 ? (short) v[i] : v[i];
                Due.same("element " + sort + " " + v[i], Due.element(x, sort, i), "" + want);
            }
        }
        Due.same("no shelf", Due.element(x, 8, 0), "IllegalArgumentException");
        Due.same("no shelf", Due.element(x, -1, 0), "IllegalArgumentException");
        Due.same("nothing", Due.element(x, 3, 0), "IllegalStateException");
        Due.same("no place", Due.element(x, 0, v.length), "IllegalStateException");
        Due.same("no place", Due.element(x, 0, -1), "IllegalStateException");
        x.juror(1, 0, 0, -1);
        x.keep(0, 1, 0);
        Due.same("a juror", Due.element(x, 0, 0), "IllegalStateException");
    }

    private static String all(ElevenOne x, int d, int n) {
        StringBuilder b = new StringBuilder();
        for (int i = 0; i < n; i++) {
            b.append(Due.element(x, d, i)).append(' ');
        }
        return b.toString();
    }

    private static void fill(ElevenOne x, int d, int n) {
        x.row(d, 1, n);
        for (int i = 0; i < n; i++) {
            x.put(d, i, i + 1);
        }
    }

    private static void copies() {
        ElevenOne x = new ElevenOne();
        fill(x, 0, 6);
        x.row(1, 1, 4);
        Due.due("copy", x.copy(0, 2, 1, 1, 3), 3);
        Due.same("copied", all(x, 1, 4), "0 3 4 5 ");
        Due.due("copy behind itself", x.copy(0, 0, 0, 2, 4), 4);
        Due.same("copied", all(x, 0, 6), "1 2 1 2 3 4 ");
        fill(x, 0, 6);
        Due.due("copy ahead of itself", x.copy(0, 2, 0, 0, 4), 4);
        Due.same("copied", all(x, 0, 6), "3 4 5 6 5 6 ");
        Due.due("none", x.copy(0, 6, 1, 4, 0), 0);
        Due.due("n below 0", x.copy(0, 0, 1, 0, -1), -13);
        Due.due("too many there", x.copy(0, 0, 1, 0, 5), -13);
        Due.due("too many here", x.copy(1, 0, 0, 0, 5), -13);
        Due.due("i below 0", x.copy(0, -1, 1, 0, 1), -13);
        Due.due("j below 0", x.copy(0, 0, 1, -1, 1), -13);
        Due.due("far places", x.copy(0, Integer.MAX_VALUE, 1, 0, Integer.MAX_VALUE), -13);
        Due.due("far places", x.copy(0, Integer.MAX_VALUE, 1, 0, 1), -13);
        Due.due("far places", x.copy(0, 0, 1, Integer.MAX_VALUE, 1), -13);
        Due.due("lowest n", x.copy(0, 0, 1, 0, Integer.MIN_VALUE), -13);
        Due.due("nothing there", x.copy(0, 0, 2, 0, 1), -11);
        Due.due("nothing here", x.copy(2, 0, 0, 0, 1), -11);
        Due.due("no shelf there", x.copy(2, 0, 8, 0, 1), -1);
        Due.due("no shelf here", x.copy(-1, 0, 2, 0, 1), -1);
        x.row(2, 2, 4);
        Due.due("another sort", x.copy(0, 0, 2, 0, -1), -12);
        x.juror(1, 0, 0, -1);
        x.keep(3, 1, 0);
        x.keep(4, 1, 0);
        Due.due("a juror there", x.copy(0, 0, 3, 0, 1), -12);
        Due.due("a juror here", x.copy(3, 0, 0, 0, 1), -12);
        Due.due("jurors both", x.copy(3, 0, 4, 0, 0), -12);
        Due.due("a juror and nothing", x.copy(3, 0, 5, 0, 0), -11);
    }

    private static void voices() {
        ElevenOne x = new ElevenOne();
        x.thing(1);
        x.thing(2);
        int[] want = {9, 11, 12, 24, 16, 19, 8, 108};
        for (int kind = 0; kind < 8; kind++) {
            x.juror(1000 * kind + 309, 0, 100, -1);
            x.holds(kind, 3);
            x.keep(kind, 1, kind);
            Due.due("voice " + kind, x.voice(kind), want[kind]);
        }
        Due.due("shelf 8", x.voice(8), -1);
        Due.due("shelf -1", x.voice(-1), -1);
        x.keep(0, 0, 0);
        Due.due("nothing", x.voice(0), -11);
        x.row(0, 0, 0);
        Due.due("a row", x.voice(0), -12);
    }

    private static void tosses() {
        ElevenOne x = new ElevenOne();
        int[] want = {0, 1, 2, 103, 204, 5, -15, -15};
        for (int kind = 0; kind < 8; kind++) {
            x.juror(1000 * kind + 401, 0, 0, -1);
            x.keep(kind, 1, kind);
            Due.due("toss " + kind, x.toss(kind), want[kind]);
        }
        for (int kind = 0; kind < 4; kind++) {
            x.juror(1000 * (kind + 1) + 1, 0, 0, -1);
            x.keep(kind, 1, 8 + kind);
            Due.due("toss of one who heeds nobody", x.toss(kind), -15);
        }
        x = new ElevenOne();
        int[] wantOfLittle = {0, 1, 2, 103, 201, 5};
        for (int kind = 0; kind < 6; kind++) {
            x.juror(1000 * kind + 101, 0, 0, -1);
            x.keep(kind, 1, kind);
            Due.due("toss of one who heeds little", x.toss(kind), wantOfLittle[kind]);
        }
        Due.due("shelf 8", x.toss(8), -1);
        Due.due("shelf -1", x.toss(-1), -1);
        x.keep(0, 0, 0);
        Due.due("nothing", x.toss(0), -11);
        x.row(0, 0, 0);
        Due.due("a row", x.toss(0), -12);
    }
}

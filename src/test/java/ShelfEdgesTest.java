/** The boundary cases that promises 23 to 32 and their terms name, a sentence at a time, and those of all calls. */
public final class ShelfEdgesTest {
    private static final int[] FAR = {Integer.MIN_VALUE, Integer.MIN_VALUE + 1, -1000000, 1000000, Integer.MAX_VALUE};
    private static final int YES = -99;
    private static final int NO = 99;

    public static void main(String[] args) {
        imageOfNothing();
        imageOfTwelve();
        imageTakenAnew();
        restoreWithoutImage();
        restoreOftener();
        restoreRule();
        restoreTalk();
        restoreNoTalk();
        restoreTalkOfLeader();
        restoreWhatAllHold();
        restoreThingsAndLaws();
        restoreLeavesShelves();
        countRefusals();
        countBelowZero();
        countHeldByAll();
        keepRefusals();
        keepNothing();
        keepAsItWasThen();
        rowSizes();
        rowRefusalsInOrder();
        rowIsZeroAtFirst();
        rowOfNone();
        putPlaces();
        putRefusalsInOrder();
        putLowestBits();
        elementThrows();
        copyPlaces();
        copyOfNone();
        copyRefusalsInOrder();
        copySorts();
        copyWithinOne();
        voiceRefusals();
        voiceAtItsEnds();
        tossRefusals();
        tossAtItsEnds();
        tossOfKinds();
        refusedChangesNothing();
        refusedLeavesImage();
        calls512();
        Due.finish();
    }

    // ---- promises 23, 24

    private static void imageOfNothing() {
        ElevenOne x = new ElevenOne();
        Due.due("an image of nobody", x.image(), 0);
        x.thing(1);
        Due.law(x, "t");
        x.juror(1, 0, 0, 0);
        x.begin();
        x.set(0, 3);
        Due.due("restored, nobody", x.restore(), 0);
        for (int what = 0; what < 5; what++) {
            Due.due("restored, nothing: " + what, x.count(what), 0);
        }
        Due.due("restored, no talk", x.talk(0), -3);
        Due.due("restored, no run", x.run(0), -3);
        Due.due("restored, needed", x.set(0, 12), 12);
        Due.due("the first juror again", x.juror(1, 0, 0, -1), 0);
        Due.due("holds none", x.of(0, 6), 0);
    }

    private static void imageOfTwelve() {
        ElevenOne x = new ElevenOne();
        for (int j = 0; j < 12; j++) {
            Due.due("how many jurors", x.image(), j);
            x.juror(1 + j, 0, 0, -1);
        }
        Due.due("twelve", x.image(), 12);
        Due.due("twelve restored", x.restore(), 12);
        Due.due("the last", x.of(11, 2), 12);
    }

    private static void imageTakenAnew() {
        ElevenOne x = new ElevenOne();
        x.juror(1, 0, 0, -1);
        x.image();
        x.juror(2, 0, 0, -1);
        Due.due("an image in place of the other", x.image(), 2);
        x.juror(3, 0, 0, -1);
        Due.due("the one taken last", x.restore(), 2);
        Due.due("no juror 2", x.of(2, 0), Due.MISSING);
    }

    private static void restoreWithoutImage() {
        ElevenOne x = new ElevenOne();
        x.juror(1, YES, 0, -1);
        x.juror(1, NO, 0, -1);
        x.begin();
        x.go(3);
        String before = Seen.of(x);
        Due.due("there is none", x.restore(), -3);
        Due.same("refused, all is as it was", Seen.of(x), before);
    }

    private static void restoreOftener() {
        ElevenOne x = talkOfAllKinds();
        x.image();
        String then = Seen.of(x);
        for (int i = 0; i < 3; i++) {
            x.go(i + 1);
            x.thing(i);
            x.set(i, 1);
            x.holds(i, 3);
            if (i == 1) {
                x.begin();
            }
            if (i == 2) {
                x.juror(30, 0, 0, -1);
            }
            Due.due("restored " + i, x.restore(), 8);
            Due.same("all is as it was then, " + i, Seen.of(x), then);
        }
    }

    private static void restoreRule() {
        ElevenOne x = new ElevenOne();
        int[] then = {5, 7, 1, 3000};
        int[] later = {12, 11, 0, 1};
        for (int what = 0; what < 4; what++) {
            x.set(what, then[what]);
        }
        x.image();
        for (int what = 0; what < 4; what++) {
            x.set(what, later[what]);
        }
        x.restore();
        for (int what = 0; what < 4; what++) {
            Due.due("the rule as it was then: " + what, x.set(what, later[what]), then[what]);
        }
    }

    /** One of each kind, apart enough to talk for long. */
    private static ElevenOne talkOfAllKinds() {
        ElevenOne x = new ElevenOne();
        for (int i = 0; i < 8; i++) {
            x.thing(i % 2 == 0 ? 3 + i : -2 - i);
        }
        Due.law(x, "t+p*2+y");
        int[] lines = {NO, 2, 4, -3, 6, YES, 1, 9};
        for (int kind = 0; kind < 8; kind++) {
            x.juror(1000 * kind + 100 * (kind + 2) + 3 + kind, lines[kind], 60, kind % 2 - 1);
            x.holds(kind, 1 << kind | 16);
        }
        x.set(1, 1);
        x.set(2, 1);
        x.begin();
        x.go(8);
        return x;
    }

    private static void restoreTalk() {
        for (int turns = 0; turns < 20; turns++) {
            ElevenOne x = talkOfAllKinds();
            ElevenOne y = talkOfAllKinds();
            if (turns > 0) {
                x.go(turns);
                y.go(turns);
            }
            x.image();
            x.go(5);
            x.set(1, 6);
            x.begin();
            x.go(3);
            x.restore();
            Due.same("the talk as it was then", Seen.of(x), Seen.of(y));
            x.go(9);
            y.go(9);
            Due.same("and it goes on as it would have", Seen.of(x), Seen.of(y));
        }
    }

    private static void restoreNoTalk() {
        ElevenOne x = new ElevenOne();
        x.thing(20);
        x.juror(1901, YES, 0, -1);
        x.juror(2901, NO, 0, -1);
        x.holds(0, 1);
        x.image();
        x.begin();
        x.go(2);
        Due.due("held in the talk", x.of(1, 6), 1);
        x.restore();
        Due.due("no talk had begun", x.talk(0), -3);
        Due.due("no talk had begun", x.go(1), -3);
        Due.due("held as told", x.of(1, 6), 0);
        Due.due("not pushed", x.of(1, 7), 0);
        Due.due("no slip", x.of(0, 8), 0);
        Due.due("leans as told", x.leans(1), 0);
    }

    private static void restoreTalkOfLeader() {
        ElevenOne x = new ElevenOne();
        for (int j = 0; j < 4; j++) {
            x.juror(1 + j, j == 0 ? YES : NO, 0, -1);
        }
        x.set(1, 2);
        x.begin();
        x.image();
        x.set(1, 1);
        x.begin();
        x.go(1);
        Due.due("led by 1", x.talk(0), 2);
        x.restore();
        x.go(1);
        Due.due("led by 2, as it began then", x.talk(0), 3);
        x.go(2);
        Due.due("and round", x.talk(0), 8);
    }

    private static void restoreWhatAllHold() {
        ElevenOne x = new ElevenOne();
        x.thing(5);
        x.thing(6);
        x.juror(1001, YES, 0, -1);
        x.juror(1, NO, 0, -1);
        x.holds(0, 3);
        x.begin();
        x.go(1);
        x.image();
        x.go(2);
        Due.due("both are out", x.talk(4), 3);
        x.restore();
        Due.due("one was out then", x.talk(4), 2);
        x.begin();
        x.restore();
        Due.due("one was out then", x.talk(4), 2);
        x.go(2);
        Due.due("the other comes out next", x.talk(4), 3);
    }

    private static void restoreThingsAndLaws() {
        ElevenOne x = new ElevenOne();
        x.thing(5);
        Due.law(x, "11");
        x.image();
        x.thing(7);
        Due.law(x, "12");
        x.restore();
        Due.due("one thing", x.count(0), 1);
        Due.due("one law", x.count(2), 1);
        Due.due("another thing 1", x.thing(-9), 1);
        Due.due("it speaks otherwise", x.count(3), -4);
        Due.due("another law 1", Due.law(x, "13"), 1);
        x.juror(1, 0, 0, 0);
        x.juror(1, 0, 0, 1);
        Due.due("the law of then", x.leans(0), 11);
        Due.due("the law told anew", x.leans(1), 13);
        x.restore();
        Due.due("all of that is gone", x.count(0) + x.count(1) + x.count(2), 2);
    }

    private static void restoreLeavesShelves() {
        ElevenOne x = new ElevenOne();
        x.juror(9, 0, 0, -1);
        x.keep(0, 1, 0);
        x.row(1, 0, 2);
        x.image();
        x.juror(8, 0, 0, -1);
        x.keep(0, 1, 1);
        x.keep(2, 1, 1);
        x.put(1, 1, 77);
        x.row(3, 2, 1);
        x.restore();
        Due.due("a juror that is gone, on a shelf still", x.voice(0), 8);
        Due.due("and on another", x.voice(2), 8);
        Due.same("what was put in stays", Due.element(x, 1, 1), "77");
        Due.same("a row stays", Due.element(x, 3, 0), "0");
    }

    // ---- promise 25

    private static void countRefusals() {
        ElevenOne x = new ElevenOne();
        for (int what = -2; what < 8; what++) {
            Due.due("count " + what, x.count(what), what >= 0 && what < 5 ? 0 : Due.MISSING);
        }
        for (int far : FAR) {
            Due.due("count " + far, x.count(far), Due.MISSING);
        }
    }

    private static void countBelowZero() {
        ElevenOne x = new ElevenOne();
        int sum = 0;
        int[] speaks = {-1, 1, -3, 20, -20, -20, 20, 20, 20, 20, 20, 20};
        for (int s : speaks) {
            x.thing(s);
            sum += s;
            Due.due("what they speak together", x.count(3), sum);
        }
        x = new ElevenOne();
        for (int i = 1; i <= 12; i++) {
            x.thing(-20);
            Due.due("it may be below 0", x.count(3), -20 * i);
        }
    }

    private static void countHeldByAll() {
        ElevenOne x = new ElevenOne();
        x.juror(1, YES, 0, -1);
        Due.due("held by all: no things", x.count(4), 0);
        for (int i = 0; i < 12; i++) {
            x.thing(1);
        }
        Due.due("held by one: none", x.count(4), 0);
        x.holds(0, 4095);
        Due.due("held by one: all", x.count(4), 4095);
        x.juror(1001, NO, 0, -1);
        Due.due("a second holds none", x.count(4), 0);
        x.holds(1, 2049);
        Due.due("the first and the last", x.count(4), 2049);
        x.begin();
        x.holds(0, 4094);
        Due.due("as told, in a talk", x.count(4), 2048);
        Due.due("of the talk", x.talk(4), 2049);
    }

    // ---- promise 26

    private static void keepRefusals() {
        ElevenOne x = new ElevenOne();
        for (int jurors = 0; jurors < 3; jurors++) {
            for (int d = -2; d <= 9; d++) {
                for (int what = -2; what <= 3; what++) {
                    for (int k = -2; k <= 4; k++) {
                        boolean there = d >= 0 && d < 8 && (what == 0 || what == 1 && k >= 0 && k < jurors);
                        Due.due("keep " + d + " " + what + " " + k, x.keep(d, what, k), there ? 0 : -1);
                    }
                }
            }
            x.juror(1, 0, 0, -1);
        }
        for (int far : FAR) {
            Due.due("keep on shelf " + far, x.keep(far, 0, 0), -1);
            Due.due("keep what " + far, x.keep(0, far, 0), -1);
            Due.due("keep juror " + far, x.keep(0, 1, far), -1);
            Due.due("nothing, the others do not matter", x.keep(0, 0, far), 0);
        }
    }

    private static void keepNothing() {
        ElevenOne x = new ElevenOne();
        x.juror(5, 0, 0, -1);
        for (int d = 0; d < 8; d++) {
            x.keep(d, 1, 0);
        }
        for (int d = 0; d < 8; d++) {
            Due.due("nothing", x.keep(d, 0, -99), 0);
            for (int e = 0; e < 8; e++) {
                Due.due("shelf " + e + " behind nothing on " + d, x.voice(e), e <= d ? -11 : 5);
            }
        }
        x.row(3, 0, 4);
        x.keep(3, 0, 0);
        Due.same("no row either", Due.element(x, 3, 0), "IllegalStateException");
        Due.due("nothing held", x.put(3, 0, 0), -11);
        x.keep(3, 1, 0);
        Due.due("refused, it holds what it held", x.keep(3, 1, 1), -1);
        Due.due("refused, it holds what it held", x.voice(3), 5);
    }

    private static void keepAsItWasThen() {
        ElevenOne x = new ElevenOne();
        x.thing(5);
        x.thing(6);
        x.juror(1401, YES, 0, -1);
        x.juror(1402, NO, 0, -1);
        x.holds(0, 3);
        x.keep(0, 1, 0);
        x.keep(1, 1, 1);
        x.holds(0, 0);
        x.holds(1, 1);
        Due.due("what it held then", x.voice(0), 3);
        Due.due("what it held then", x.voice(1), 2);
        x.image();
        x.keep(2, 1, 1);
        Due.due("what it holds now", x.voice(2), 3);
        x.restore();
        Due.due("what it held then", x.voice(0), 3);
        Due.due("whose number it was", x.toss(1), 1);
    }

    // ---- promise 27

    private static void rowSizes() {
        for (int sort = 0; sort < 3; sort++) {
            ElevenOne x = new ElevenOne();
            for (int n = 0; n <= 100; n++) {
                Due.due("row of " + n, x.row(n % 8, sort, n), 0);
                Due.same("place " + n, Due.element(x, n % 8, n), "IllegalStateException");
                Due.same("the last place", Due.element(x, n % 8, n - 1), n == 0 ? "IllegalStateException" : "0");
                Due.due("put in place " + n, x.put(n % 8, n, 1), -13);
                Due.due("put in the last place", x.put(n % 8, n - 1, 1), n == 0 ? -13 : 0);
            }
            Due.due("row of 101", x.row(0, sort, 101), -1);
            Due.due("row of -1", x.row(0, sort, -1), -14);
        }
    }

    private static void rowRefusalsInOrder() {
        ElevenOne x = new ElevenOne();
        int[] sizes = {Integer.MIN_VALUE, -1, 0, 100, 101, Integer.MAX_VALUE};
        for (int d = -1; d <= 8; d++) {
            for (int sort = -1; sort <= 3; sort++) {
                for (int n : sizes) {
                    boolean there = d >= 0 && d < 8 && sort >= 0 && sort < 3 && n <= 100;
                    Due.due("row " + d + " " + sort + " " + n, x.row(d, sort, n), !there ? -1 : n < 0 ? -14 : 0);
                }
            }
        }
        for (int far : FAR) {
            Due.due("row on shelf " + far, x.row(far, 0, -1), -1);
            Due.due("row of sort " + far, x.row(0, far, -1), -1);
        }
    }

    private static void rowIsZeroAtFirst() {
        for (int sort = 0; sort < 3; sort++) {
            ElevenOne x = new ElevenOne();
            x.row(4, sort, 100);
            for (int i = 0; i < 100; i++) {
                x.put(4, i, 7);
            }
            x.row(4, 2 - sort, 100);
            for (int i = 0; i < 100; i++) {
                Due.same("0 at first, behind a row", Due.element(x, 4, i), "0");
                x.put(4, i, 7);
            }
            x.keep(4, 0, 0);
            x.row(4, sort, 5);
            x.row(4, sort, 100);
            for (int i = 0; i < 100; i++) {
                Due.same("0 at first, behind nothing", Due.element(x, 4, i), "0");
            }
        }
    }

    private static void rowOfNone() {
        ElevenOne x = new ElevenOne();
        x.row(0, 0, 0);
        Due.due("a row of none is held", x.voice(0), -12);
        Due.due("a row of none is a row", x.toss(0), -12);
        Due.due("no place in it", x.put(0, 0, 0), -13);
        Due.due("no law in it", x.law(0), -100);
        Due.same("no element in it", Due.element(x, 0, 0), "IllegalStateException");
        Due.due("none of it", x.copy(0, 0, 0, 0, 0), 0);
    }

    // ---- promise 28

    private static void putPlaces() {
        ElevenOne x = new ElevenOne();
        x.row(6, 2, 3);
        for (int i = -2; i <= 5; i++) {
            Due.due("put in place " + i, x.put(6, i, 10 + i), i >= 0 && i < 3 ? 0 : -13);
        }
        for (int far : FAR) {
            Due.due("put in place " + far, x.put(6, far, 1), -13);
        }
        for (int i = 0; i < 3; i++) {
            Due.same("element " + i, Due.element(x, 6, i), "" + (10 + i));
        }
    }

    private static void putRefusalsInOrder() {
        ElevenOne x = new ElevenOne();
        x.juror(1, 0, 0, -1);
        x.keep(1, 1, 0);
        x.row(2, 0, 1);
        int[] places = {-1, 0, 1, 100};
        for (int i : places) {
            Due.due("no shelf 8", x.put(8, i, 0), -1);
            Due.due("no shelf -1", x.put(-1, i, 0), -1);
            Due.due("nothing held, ahead of the place", x.put(0, i, 0), -11);
            Due.due("a juror, ahead of the place", x.put(1, i, 0), -12);
            Due.due("the place", x.put(2, i, 0), i == 0 ? 0 : -13);
        }
        for (int far : FAR) {
            Due.due("no shelf " + far, x.put(far, 0, 0), -1);
        }
    }

    private static void putLowestBits() {
        ElevenOne x = new ElevenOne();
        int[] v = {0, 1, 127, 128, 129, 255, 256, 257, -1, -128, -129, -256, 32767, 32768, 65535, 65536, -32768, -32769, 16777216};
        long[] bytes = {0, 1, 127, -128, -127, -1, 0, 1, -1, -128, 127, 0, -1, 0, -1, 0, 0, -1, 0};
        long[] shorts = {0, 1, 127, 128, 129, 255, 256, 257, -1, -128, -129, -256, 32767, -32768, -1, 0, -32768, 32767, 0};
        for (int sort = 0; sort < 3; sort++) {
            x.row(sort, sort, 1);
        }
        for (int i = 0; i < v.length; i++) {
            for (int sort = 0; sort < 3; sort++) {
                Due.due("put", x.put(sort, 0, v[i]), 0);
                long want = sort == 0 ? bytes[i] : sort == 1 ? shorts[i] : v[i];
                Due.same("the lowest bits of " + v[i] + " in sort " + sort, Due.element(x, sort, 0), "" + want);
            }
        }
        for (int far : FAR) {
            x.put(2, 0, far);
            Due.same("all the bits of an int", Due.element(x, 2, 0), "" + far);
        }
    }

    // ---- promise 29

    private static void elementThrows() {
        ElevenOne x = new ElevenOne();
        x.juror(1, 0, 0, -1);
        x.keep(1, 1, 0);
        x.row(2, 0, 0);
        x.row(3, 1, 2);
        int[] places = {Integer.MIN_VALUE, -1, 0, 1, 2, 3, 100, Integer.MAX_VALUE};
        for (int i : places) {
            Due.same("no shelf 8, whatever the place", Due.element(x, 8, i), "IllegalArgumentException");
            Due.same("no shelf -1, whatever the place", Due.element(x, -1, i), "IllegalArgumentException");
            Due.same("nothing", Due.element(x, 0, i), "IllegalStateException");
            Due.same("a juror", Due.element(x, 1, i), "IllegalStateException");
            Due.same("a row of none", Due.element(x, 2, i), "IllegalStateException");
            Due.same("place " + i, Due.element(x, 3, i), i == 0 || i == 1 ? "0" : "IllegalStateException");
        }
        for (int far : FAR) {
            Due.same("no shelf " + far, Due.element(x, far, 0), "IllegalArgumentException");
        }
        Due.due("thrown, nothing is changed", x.voice(1), 1);
    }

    // ---- promise 30

    private static void copyPlaces() {
        for (int n = -2; n <= 6; n++) {
            for (int i = -2; i <= 6; i++) {
                for (int j = -2; j <= 7; j++) {
                    ElevenOne x = new ElevenOne();
                    x.row(0, 2, 4);
                    x.row(1, 2, 5);
                    for (int k = 0; k < 4; k++) {
                        x.put(0, k, 10 + k);
                    }
                    boolean fits = n >= 0 && i >= 0 && j >= 0 && i + n <= 4 && j + n <= 5;
                    String call = "copy 0 " + i + " 1 " + j + " " + n;
                    Due.due(call, x.copy(0, i, 1, j, n), fits ? n : -13);
                    for (int k = 0; k < 5; k++) {
                        int want = fits && k >= j && k < j + n ? 10 + i + k - j : 0;
                        Due.same(call + ": place " + k, Due.element(x, 1, k), "" + want);
                    }
                }
            }
        }
        ElevenOne x = new ElevenOne();
        x.row(0, 0, 100);
        x.row(1, 0, 100);
        Due.due("a hundred", x.copy(0, 0, 1, 0, 100), 100);
        Due.due("a hundred and one", x.copy(0, 0, 1, 0, 101), -13);
        for (int far : FAR) {
            Due.due("from " + far, x.copy(0, far, 1, 0, 1), -13);
            Due.due("to " + far, x.copy(0, 0, 1, far, 1), -13);
            Due.due("as many as " + far, x.copy(0, 0, 1, 0, far), -13);
            Due.due("all of " + far, x.copy(0, far, 1, far, far), -13);
            Due.due("from 1, as many as " + far, x.copy(0, 1, 1, 1, far), -13);
        }
    }

    private static void copyOfNone() {
        ElevenOne x = new ElevenOne();
        x.row(0, 1, 3);
        x.row(1, 1, 0);
        Due.due("none", x.copy(0, 0, 1, 0, 0), 0);
        Due.due("none from the end", x.copy(0, 3, 1, 0, 0), 0);
        Due.due("none from behind the end", x.copy(0, 4, 1, 0, 0), -13);
        Due.due("none to behind the end", x.copy(0, 0, 1, 1, 0), -13);
        Due.due("none from below", x.copy(0, -1, 1, 0, 0), -13);
        Due.due("one to a row of none", x.copy(0, 0, 1, 0, 1), -13);
        Due.due("one from a row of none", x.copy(1, 0, 0, 0, 1), -13);
        Due.due("below 0", x.copy(0, 0, 1, 0, -1), -13);
    }

    private static void copyRefusalsInOrder() {
        ElevenOne x = new ElevenOne();
        x.juror(1, 0, 0, -1);
        // 0 nothing, 1 a juror, 2 bytes, 3 shorts, 4 ints, 5 bytes, 8 and -1 no shelf.
        x.keep(1, 1, 0);
        x.row(2, 0, 1);
        x.row(3, 1, 1);
        x.row(4, 2, 1);
        x.row(5, 0, 1);
        int[] shelves = {-1, 0, 1, 2, 3, 4, 5, 8};
        int[] held = {-1, -11, -12, 0, 1, 2, 0, -1};
        int[] numbers = {-1, 0, 1, 2};
        for (int a = 0; a < shelves.length; a++) {
            for (int b = 0; b < shelves.length; b++) {
                for (int n : numbers) {
                    int want = n == 0 || n == 1 ? n : -13;
                    if (held[a] == -1 || held[b] == -1) {
                        want = -1;
                    } else if (held[a] == -11 || held[b] == -11) {
                        want = -11;
                    } else if (held[a] == -12 || held[a] != held[b]) {
                        want = -12;
                    }
                    Due.due("copy " + shelves[a] + " to " + shelves[b] + ", " + n, x.copy(shelves[a], 0, shelves[b], 0, n), want);
                }
            }
        }
        for (int far : FAR) {
            Due.due("copy from shelf " + far, x.copy(far, 0, 0, 0, 0), -1);
            Due.due("copy to shelf " + far, x.copy(0, 0, far, 0, 0), -1);
        }
    }

    private static void copySorts() {
        for (int sort = 0; sort < 3; sort++) {
            ElevenOne x = new ElevenOne();
            x.row(0, sort, 2);
            x.row(1, sort, 2);
            x.put(0, 0, -7);
            x.put(0, 1, 125);
            Due.due("of one sort " + sort, x.copy(0, 0, 1, 0, 2), 2);
            Due.same("as it is", Due.element(x, 1, 0), "-7");
            Due.same("as it is", Due.element(x, 1, 1), "125");
            x.put(0, 0, 3);
            Due.same("a row of its own", Due.element(x, 1, 0), "-7");
        }
    }

    private static void copyWithinOne() {
        for (int i = 0; i <= 10; i++) {
            for (int j = 0; j <= 10; j++) {
                for (int n = 0; n <= 10; n++) {
                    if (i + n > 10 || j + n > 10) {
                        continue;
                    }
                    ElevenOne x = new ElevenOne();
                    x.row(0, 0, 10);
                    int[] want = new int[10];
                    for (int k = 0; k < 10; k++) {
                        x.put(0, k, k + 1);
                        want[k] = k >= j && k < j + n ? i + k - j + 1 : k + 1;
                    }
                    Due.due("copy within one", x.copy(0, i, 0, j, n), n);
                    for (int k = 0; k < 10; k++) {
                        Due.same("copy " + i + " " + j + " " + n + ": " + k, Due.element(x, 0, k), "" + want[k]);
                    }
                }
            }
        }
    }

    // ---- promises 31, 32

    private static void voiceRefusals() {
        ElevenOne x = new ElevenOne();
        x.juror(7, 0, 0, -1);
        x.row(1, 0, 0);
        x.row(2, 2, 100);
        x.keep(3, 1, 0);
        int[] want = {-1, -11, -12, -12, 7, -11, -11, -11, -11, -1};
        for (int d = -1; d <= 8; d++) {
            Due.due("voice of " + d, x.voice(d), want[d + 1]);
        }
        for (int far : FAR) {
            Due.due("voice of " + far, x.voice(far), -1);
        }
    }

    private static int voiceOf(int told, int patience, int holds) {
        ElevenOne x = new ElevenOne();
        for (int i = 0; i < 12; i++) {
            x.thing(1);
        }
        Due.due("juror", x.juror(told, 0, patience, -1), 0);
        x.holds(0, holds);
        x.keep(0, 1, 0);
        return x.voice(0);
    }

    private static void voiceAtItsEnds() {
        int[] holds = {0, 1, 2048, 2049, 4095};
        int[] many = {0, 1, 1, 2, 12};
        int[] minutes = {1, 30};
        int[] patiences = {0, 999};
        for (int h = 0; h < holds.length; h++) {
            for (int m : minutes) {
                for (int heeds = 0; heeds <= 9; heeds += 9) {
                    for (int patience : patiences) {
                        int told = 100 * heeds + m;
                        int[] want = {m, m + many[h], m + heeds, 2 * (m + heeds), m + many[h] + 5, m + 10, m - 1, m - 1 + patience};
                        for (int kind = 0; kind < 8; kind++) {
                            String of = "voice of " + (1000 * kind + told) + ", patience " + patience + ", holds " + many[h];
                            Due.due(of, voiceOf(1000 * kind + told, patience, holds[h]), want[kind]);
                        }
                    }
                }
            }
        }
    }

    private static void tossRefusals() {
        ElevenOne x = new ElevenOne();
        x.juror(107, 0, 0, -1);
        x.row(1, 0, 0);
        x.row(2, 2, 100);
        x.keep(3, 1, 0);
        int[] want = {-1, -11, -12, -12, 0, -11, -11, -11, -11, -1};
        for (int d = -1; d <= 8; d++) {
            Due.due("toss of " + d, x.toss(d), want[d + 1]);
        }
        for (int far : FAR) {
            Due.due("toss of " + far, x.toss(far), -1);
        }
    }

    private static void tossAtItsEnds() {
        for (int kind = 0; kind < 8; kind++) {
            for (int heeds = 0; heeds <= 9; heeds++) {
                ElevenOne x = new ElevenOne();
                for (int j = 0; j < 12; j++) {
                    x.juror(1000 * kind + 100 * heeds + 1, 0, 0, -1);
                    x.keep(j % 8, 1, j);
                    int want = kind == 3 ? 100 + j : kind == 4 ? 200 + heeds : j;
                    if (kind > 5 || heeds == 0) {
                        want = -15;
                    }
                    Due.due("toss of kind " + kind + ", heeds " + heeds + ", juror " + j, x.toss(j % 8), want);
                }
            }
        }
    }

    private static void tossOfKinds() {
        ElevenOne x = new ElevenOne();
        int[] told = {901, 1901, 2901, 3901, 4901, 5901, 6901, 7901};
        int[] want = {0, 1, 2, 103, 209, 5, -15, -15};
        for (int j = 0; j < 8; j++) {
            x.juror(told[j], 0, 0, -1);
            x.keep(j, 1, j);
        }
        x.image();
        for (int j = 0; j < 8; j++) {
            Due.due("toss of kind " + j, x.toss(j), want[j]);
            Due.due("and again", x.toss(j), want[j]);
        }
    }

    // ---- of all calls

    private static ElevenOne full() {
        ElevenOne x = talkOfAllKinds();
        for (int j = 8; j < 12; j++) {
            x.juror(1000 * (j % 8) + 203, 5 - j, 9, 0);
            x.holds(j, 1 << (j - 8));
        }
        for (int i = 8; i < 12; i++) {
            x.thing(i);
        }
        for (int i = 1; i < 6; i++) {
            Due.law(x, "t+" + i);
        }
        x.row(0, 0, 3);
        x.put(0, 0, 't');
        x.put(0, 1, '+');
        x.row(1, 1, 2);
        x.keep(2, 1, 3);
        x.keep(4, 1, 6);
        x.row(6, 2, 100);
        x.begin();
        x.go(3);
        return x;
    }

    private static void refusedChangesNothing() {
        ElevenOne x = full();
        String before = Seen.of(x);
        int[][] jurors = {{0, 0, 0, -1}, {8001, 0, 0, -1}, {1, 100, 0, -1}, {1, 0, 1000, -1}, {1, 0, 0, 6}, {1, 0, 0, -1}};
        for (int[] j : jurors) {
            Due.due("refused juror", x.juror(j[0], j[1], j[2], j[3]) < 0 ? 1 : 0, 1);
            Due.same("a refused juror changes nothing", Seen.of(x), before);
        }
        int[] calls = {x.thing(21), x.thing(1), x.holds(12, 1), x.holds(0, 4096), x.holds(0, -1), x.law(0), x.law(8), x.law(1),
            x.set(0, 0), x.set(1, 12), x.set(2, 2), x.set(3, 3001), x.set(4, 1), x.go(0), x.go(61), x.talk(6), x.run(5), x.out(12),
            x.six(0, 0), x.six(13, 0), x.six(1, 3), x.lost(0), x.lost(13), x.leads(3), x.leftOut(-1), x.worlds(31, 0, 50, 0),
            x.worlds(1, 0, 101, 0), x.restore(), x.keep(8, 0, 0), x.keep(0, 1, 12), x.keep(0, 2, 0), x.row(0, 0, 101),
            x.row(0, 3, 1), x.row(0, 0, -1), x.put(3, 0, 1), x.put(2, 0, 1), x.put(0, 3, 1), x.copy(0, 0, 6, 0, 1),
            x.copy(0, 0, 0, 1, 3), x.copy(0, 0, 0, 1, -1), x.copy(0, 0, 3, 0, 0), x.voice(3), x.voice(0), x.toss(4), x.toss(0),
            x.of(12, 0), x.of(0, 10), x.leans(12), x.moved(0, 3), x.count(5)};
        for (int i = 0; i < calls.length; i++) {
            Due.due("call " + i + " is refused", calls[i] < 0 ? 1 : 0, 1);
        }
        Due.same("refused calls change nothing", Seen.of(x), before);
        x.go(2);
        ElevenOne y = full();
        y.go(2);
        Due.same("nor what comes later", Seen.of(x), Seen.of(y));
    }

    private static void refusedLeavesImage() {
        ElevenOne x = full();
        x.image();
        String then = Seen.of(x);
        x.go(5);
        x.juror(1, 0, 0, -1);
        x.thing(1);
        x.holds(3, 4096);
        x.holds(3, 0);
        x.set(0, 1);
        Due.due("restored", x.restore(), 12);
        Due.same("as it was then", Seen.of(x), then);
    }

    private static void calls512() {
        ElevenOne x = new ElevenOne();
        x.juror(1, YES, 0, -1);
        x.juror(1, NO, 0, -1);
        x.set(3, 3000);
        x.begin();
        for (int i = 4; i < 511; i++) {
            Due.due("a call more", x.go(5), -4);
        }
        Due.due("the 512th call", x.talk(3), 5 * 507);
    }
}

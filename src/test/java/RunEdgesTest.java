/** The boundary cases that promises 12 to 22 and their terms name (what is asked in mind), a sentence at a time. */
public final class RunEdgesTest {
    private static final int[] FAR = {Integer.MIN_VALUE, Integer.MIN_VALUE + 1, -1000000, 1000000, Integer.MAX_VALUE};
    private static final int YES = -99;
    private static final int NO = 99;

    public static void main(String[] args) {
        runRefusals();
        runBeginsAsTold();
        runOfOne();
        slipsOfTwelve();
        movedRefusals();
        movedByThings();
        movedBehindTheFirstSlips();
        movedNowhere();
        outRefusals();
        outAtFirst();
        outAsTheTurnBegan();
        outNever();
        oneIsJustOne();
        sixRefusals();
        sixOfEach();
        sixNeededAtMost();
        sixLeader();
        lostRefusals();
        lostAtEach();
        leadsRefusals();
        leadsOfEach();
        handsOfEach();
        leftOutRefusals();
        leftOutNobody();
        leftOutThreeAtMost();
        leftOutOneStays();
        leftOutFewest();
        leftOutLeast();
        leftOutNeeded();
        leftOutLeader();
        leftOutInOrder();
        worldsRefusals();
        worldsOdds();
        worldsSeeds();
        worldsKnow();
        mindAlone();
        Due.finish();
    }

    // ---- promise 12

    private static void runRefusals() {
        ElevenOne x = new ElevenOne();
        for (int jurors = 0; jurors < 2; jurors++) {
            Due.due("run -1", x.run(-1), -1);
            Due.due("run 5", x.run(5), -1);
            for (int far : FAR) {
                Due.due("run " + far, x.run(far), -1);
            }
            for (int what = 0; what < 5; what++) {
                Due.due("run " + what + " of " + jurors, x.run(what) == -3 ? 1 : 0, 1 - jurors);
            }
            Due.due("slips of " + jurors, x.slips(true), jurors == 0 ? -3 : 1);
            Due.due("slips of " + jurors, x.slips(false), jurors == 0 ? -3 : 1);
            x.juror(1, 0, 0, -1);
        }
    }

    private static void runBeginsAsTold() {
        ElevenOne x = new ElevenOne();
        x.thing(20);
        x.juror(1905, 5, 0, -1);
        x.juror(7905, NO, 0, -1);
        x.juror(905, 15, 0, -1);
        x.holds(0, 1);
        int[] want = {1, 10, 2, 1, 3};
        for (int turns = 0; turns < 3; turns++) {
            for (int what = 0; what < 5; what++) {
                Due.due("a run behind " + turns + " turns of the talk: " + what, x.run(what), want[what]);
            }
            if (turns == 0) {
                x.begin();
            }
            x.go(1);
            Due.due("the talk's turns", x.talk(3), turns + 1 > 2 ? 2 : turns + 1);
        }
    }

    private static void runOfOne() {
        for (int line = -1; line <= 1; line++) {
            ElevenOne x = new ElevenOne();
            x.juror(30, line, 0, -1);
            int yes = line <= 0 ? 1 : 0;
            int[] want = {yes, 0, 0, yes, yes};
            for (int what = 0; what < 5; what++) {
                Due.due("a run of one, line " + line + ": " + what, x.run(what), want[what]);
            }
        }
    }

    // ---- promise 13

    private static void slipsOfTwelve() {
        ElevenOne x = new ElevenOne();
        Due.law(x, "y");
        for (int j = 0; j < 12; j++) {
            x.juror(1, j == 11 ? YES : 11 - j, 0, 0);
        }
        Due.due("the last alone at first", x.slips(true), 2048);
        Due.due("all in the end", x.slips(false), 4095);
        Due.due("yes at first", x.run(3), 1);
        Due.due("yes in the end", x.run(4), 12);
        Due.due("turns", x.run(2), 11);
        x = new ElevenOne();
        for (int j = 0; j < 12; j++) {
            x.juror(1, NO, 0, -1);
        }
        Due.due("nobody at first", x.slips(true), 0);
        Due.due("nobody in the end", x.slips(false), 0);
    }

    // ---- promise 14

    private static void movedRefusals() {
        ElevenOne x = new ElevenOne();
        for (int jurors = 0; jurors < 3; jurors++) {
            for (int what = -2; what < 5; what++) {
                boolean there = what >= 0 && what <= 2;
                for (int j = -2; j < 5; j++) {
                    boolean sits = j >= 0 && j < jurors;
                    Due.due("moved " + j + " " + what + " of " + jurors, x.moved(j, what), there && sits ? 0 : Due.MISSING);
                }
            }
            for (int far : FAR) {
                Due.due("moved juror " + far, x.moved(far, 0), Due.MISSING);
                Due.due("moved what " + far, x.moved(0, far), Due.MISSING);
            }
            x.juror(1, 0, 0, -1);
        }
    }

    private static void movedByThings() {
        for (int side = -1; side <= 1; side += 2) {
            ElevenOne x = new ElevenOne();
            for (int i = 0; i < 12; i++) {
                x.thing(20 * side);
            }
            Due.law(x, "0");
            x.juror(1001, 0, 0, 0);
            x.juror(1, 1, 0, 0);
            x.juror(7001, 0, 999, 0);
            x.holds(0, 4095);
            x.holds(1, 2048);
            x.set(3, 34);
            // Twelve turns of 0, at minutes 0, 3, .. 33.
            Due.due("moved: it held all", x.moved(0, 0), 0);
            Due.due("moved by eleven", x.moved(1, 0), 220 * side);
            Due.due("moved by twelve", x.moved(2, 0), 240 * side);
            x.set(3, 33);
            Due.due("eleven, and one held", x.moved(1, 0), 220 * side);
            Due.due("moved by eleven", x.moved(2, 0), 220 * side);
            x.set(3, 30);
            Due.due("moved by ten", x.moved(1, 0), 200 * side);
        }
    }

    private static void movedBehindTheFirstSlips() {
        ElevenOne x = new ElevenOne();
        x.juror(5901, YES, 0, -1);
        x.juror(901, YES, 0, -1);
        x.juror(701, YES, 0, -1);
        x.juror(301, NO, 0, -1);
        x.set(2, 1);
        x.set(3, 1);
        // By hands 0, 9, 14, 9; halved 0, 4, 7, 4.
        int[] halved = {0, -5, -7, -5};
        for (int j = 0; j < 4; j++) {
            Due.due("p less p behind the first slips, with hands: " + j, x.moved(j, 1), halved[j]);
        }
        x.set(2, 0);
        for (int j = 0; j < 4; j++) {
            Due.due("with slips nothing is halved: " + j, x.moved(j, 1), 0);
        }
    }

    private static void movedNowhere() {
        ElevenOne x = new ElevenOne();
        x.thing(5);
        x.juror(1901, YES, 0, -1);
        x.juror(7901, YES, 0, -1);
        x.holds(0, 1);
        for (int hands = 0; hands < 2; hands++) {
            x.set(2, hands);
            for (int what = 0; what < 3; what++) {
                for (int j = 0; j < 2; j++) {
                    Due.due("a run that ends at first moves nobody", x.moved(j, what), 0);
                }
            }
        }
    }

    // ---- promise 15

    private static void outRefusals() {
        ElevenOne x = new ElevenOne();
        for (int things = 0; things <= 12; things++) {
            Due.due("no thing " + things, x.out(things), -1);
            Due.due("no thing -1", x.out(-1), -1);
            if (things > 0) {
                Due.due("nobody to hold thing " + (things - 1), x.out(things - 1), -3);
            }
            x.thing(1);
        }
        Due.due("no thing 12", x.out(12), -1);
        x.juror(1, 0, 0, -1);
        Due.due("no thing 12", x.out(12), -1);
        Due.due("thing 11", x.out(11), -4);
        for (int far : FAR) {
            Due.due("no thing " + far, x.out(far), -1);
        }
    }

    private static void outAtFirst() {
        ElevenOne x = new ElevenOne();
        x.thing(5);
        x.thing(5);
        x.juror(1, 0, 0, -1);
        x.holds(0, 2);
        Due.due("one alone: held by all", x.out(1), 0);
        Due.due("one alone: held by nobody", x.out(0), -4);
        x.juror(30, 0, 0, -1);
        x.holds(1, 3);
        Due.due("all hold it at first", x.out(1), 0);
        Due.due("one holds it, in a run that ends at once or not", x.out(0), -4);
    }

    private static void outAsTheTurnBegan() {
        ElevenOne x = new ElevenOne();
        for (int i = 0; i < 4; i++) {
            x.thing(-10 - i);
        }
        x.juror(1007, YES, 0, -1);
        x.juror(4011, NO, 0, -1);
        x.juror(13, YES, 0, -1);
        x.holds(0, 1);
        x.holds(1, 12);
        x.set(3, 50);
        // Juror 0 at minute 0, juror 1 at 7, juror 2 at 18, 0 at 31, 1 at 38; hung at 49 (51 if it went on).
        Due.due("the first turn's", x.out(0), 0);
        Due.due("the second turn's, the louder", x.out(3), 7);
        Due.due("the fifth turn's", x.out(2), 38);
        x.set(3, 39);
        Due.due("a turn that began ahead of the limit", x.out(2), 38);
        x.set(3, 38);
        Due.due("no turn begins any more", x.out(2), -4);
        Due.due("what came out stays", x.out(3), 7);
        x.set(1, 1);
        Due.due("from juror 1", x.out(3), 0);
        Due.due("then 2, then 0", x.out(0), 24);
    }

    private static void outNever() {
        ElevenOne x = new ElevenOne();
        x.thing(12);
        x.thing(11);
        x.juror(1004, 5, 0, -1);
        x.juror(4, 5, 0, -1);
        x.holds(0, 3);
        Due.due("the thing of the turn that ends the run", x.out(0), 0);
        Due.due("the thing of a turn that isn't taken", x.out(1), -4);
        x.juror(4, 12, 0, -1);
        x.holds(1, 2);
        // All but 2 lean yes at first; the first turn's thing ends it.
        Due.due("the thing by which it ends", x.out(0), 0);
        Due.due("what would have come later", x.out(1), -4);
        x.set(0, 1);
        Due.due("a run that ends at first", x.out(0), -4);
    }

    // ---- promise 16

    private static void oneIsJustOne() {
        ElevenOne x = new ElevenOne();
        Due.due("one: nothing, nobody", x.one(), 0);
        for (int i = 0; i < 12; i++) {
            x.thing(1);
        }
        Due.due("one: nobody", x.one(), 0);
        x.juror(1001, YES, 0, -1);
        Due.due("one holds none", x.one(), 0);
        x.holds(0, 4095);
        Due.due("one holds all", x.one(), 4095);
        x.juror(1, NO, 0, -1);
        Due.due("the other holds none", x.one(), 4095);
        x.holds(1, 2049);
        Due.due("two hold the first and the last", x.one(), 2046);
        x.juror(1, NO, 0, -1);
        x.holds(2, 2050);
        Due.due("three hold the last, two the first and the second", x.one(), 2044);
        for (int j = 3; j < 12; j++) {
            x.juror(1, NO, 0, -1);
            x.holds(j, 2048);
        }
        Due.due("twelve hold the last", x.one(), 2044);
        x.begin();
        x.go(1);
        Due.due("in the talk one came out", x.talk(4), 2048 + 1);
        Due.due("as told", x.one(), 2044);
    }

    // ---- promise 17

    private static void sixRefusals() {
        ElevenOne x = new ElevenOne();
        for (int jurors = 0; jurors <= 12; jurors++) {
            for (int n = -1; n <= 14; n++) {
                boolean there = n >= 1 && n <= jurors;
                for (int what = 0; what < 3; what++) {
                    int got = x.six(n, what);
                    Due.due("six " + n + " " + what + " of " + jurors, got == -1 ? 1 : 0, there ? 0 : 1);
                }
                Due.due("six what -1", x.six(n, -1), -1);
                Due.due("six what 3", x.six(n, 3), -1);
            }
            x = new ElevenOne();
            for (int j = 0; j <= jurors; j++) {
                x.juror(1, YES, 0, -1);
            }
        }
        x.juror(1, NO, 0, -1);
        for (int far : FAR) {
            Due.due("six n " + far, x.six(far, 0), -1);
            Due.due("six what " + far, x.six(1, far), -1);
        }
    }

    /** The first n of a room that is seated by these, alone. */
    private static ElevenOne first(int n, int leader, int needed, int hands) {
        int[] told = {1903, 2205, 4307, 3411, 5102, 7604, 6706, 1508, 809, 2910, 4101, 7312};
        int[] lines = {4, -3, 9, 0, 6, 50, -20, 2, 12, -7, 3, 30};
        int[] holds = {1, 12, 16, 6, 0, 32, 64, 384, 512, 1, 3072, 2};
        int[] speaks = {9, -4, 7, 3, -12, 5, 1, -1, 0, 16, 20, -20};
        ElevenOne x = new ElevenOne();
        for (int s : speaks) {
            x.thing(s);
        }
        Due.law(x, "t+p+y-n");
        Due.law(x, "[t,p]+m/9");
        for (int j = 0; j < n; j++) {
            x.juror(told[j], lines[j], 40, j % 3 - 1);
            x.holds(j, holds[j]);
        }
        x.set(0, needed);
        x.set(1, leader);
        x.set(2, hands);
        return x;
    }

    private static void sixOfEach() {
        for (int leader = 0; leader < 12; leader++) {
            for (int needed = 5; needed <= 12; needed++) {
                ElevenOne x = first(12, leader, needed, needed % 2);
                for (int n = 1; n <= 12; n++) {
                    ElevenOne alone = first(n, leader, needed, needed % 2);
                    String of = " of the first " + n + " from " + leader + ", needed " + needed;
                    Due.due("six: how it ends" + of, x.six(n, 0), alone.run(0));
                    Due.due("six: its minute" + of, x.six(n, 1), alone.run(1));
                    Due.due("six: slips" + of, x.six(n, 2), alone.slips(false));
                }
            }
        }
    }

    private static void sixNeededAtMost() {
        ElevenOne x = new ElevenOne();
        for (int j = 0; j < 12; j++) {
            x.juror(30, j < 5 ? YES : NO, 0, -1);
        }
        x.set(0, 6);
        // Needed 6 of the first n, or n; 5 say yes.
        int[] ends = {1, 1, 1, 1, 1, 2, 2, 2, 2, 2, 0, 0};
        for (int n = 1; n <= 12; n++) {
            Due.due("needed 6, n at most: " + n, x.six(n, 0), ends[n - 1]);
            Due.due("slips of the first " + n, x.six(n, 2), n < 5 ? (1 << n) - 1 : 31);
        }
        x.set(0, 12);
        for (int n = 1; n <= 12; n++) {
            Due.due("needed 12, n at most: " + n, x.six(n, 0), n <= 5 ? 1 : 2);
        }
        x.set(0, 1);
        for (int n = 1; n <= 12; n++) {
            Due.due("needed 1: " + n, x.six(n, 0), 1);
        }
    }

    private static void sixLeader() {
        for (int leader = 0; leader < 12; leader++) {
            ElevenOne x = new ElevenOne();
            for (int j = 0; j < 6; j++) {
                x.juror(10 + j, j == 0 ? YES : NO, 0, -1);
            }
            x.set(1, leader);
            x.set(3, 1);
            for (int n = 2; n <= 6; n++) {
                Due.due("six of " + n + " from " + leader, x.six(n, 1), leader < n ? 10 + leader : 10);
            }
        }
    }

    // ---- promise 18

    private static void lostRefusals() {
        ElevenOne x = new ElevenOne();
        for (int jurors = 0; jurors < 2; jurors++) {
            Due.due("lost 0", x.lost(0), -1);
            Due.due("lost 13", x.lost(13), -1);
            Due.due("lost -1", x.lost(-1), -1);
            for (int far : FAR) {
                Due.due("lost " + far, x.lost(far), -1);
            }
            for (int k = 1; k <= 12; k++) {
                Due.due("lost " + k, x.lost(k), jurors == 0 ? -3 : 0);
            }
            x.juror(1, 0, 0, -1);
        }
    }

    private static void lostAtEach() {
        ElevenOne x = new ElevenOne();
        // Each turn of 0 brings out a thing of 10, by which one more says yes.
        for (int i = 0; i < 12; i++) {
            x.thing(10);
        }
        x.juror(1001, -99, 0, -1);
        x.holds(0, 4095);
        for (int j = 1; j < 6; j++) {
            x.juror(1, 10 * j, 0, -1);
        }
        // One says yes and five no: up to 5 it ends at once, else as all five things are out that 1 to 5 need.
        for (int needed = 1; needed <= 12; needed += 11) {
            x.set(0, needed);
            for (int k = 1; k <= 12; k++) {
                Due.due("lost by stopping at " + k, x.lost(k), k <= 5 ? 31 : 0);
            }
        }
        // Four say yes and four no: up to 4 it ends at once, then each thing that comes out makes one more.
        x = new ElevenOne();
        for (int i = 0; i < 12; i++) {
            x.thing(10);
        }
        x.juror(1001, -99, 0, -1);
        x.holds(0, 4095);
        for (int j = 1; j < 8; j++) {
            x.juror(1, j < 4 ? -99 : 10 * (j - 3), 0, -1);
        }
        x.set(0, 3);
        int[] stopped = {0, 0, 0, 0, 1, 3, 7, 15, 15, 15, 15, 15};
        for (int k = 1; k <= 12; k++) {
            Due.due("lost by stopping at " + k + " of 8", x.lost(k), 15 & ~stopped[k - 1]);
        }
        Due.due("what is needed as told is not touched", x.set(0, 3), 3);
    }

    // ---- promise 19

    private static void leadsRefusals() {
        ElevenOne x = new ElevenOne();
        for (int jurors = 0; jurors < 2; jurors++) {
            Due.due("leads -1", x.leads(-1), -1);
            Due.due("leads 3", x.leads(3), -1);
            Due.due("leftOut -1", x.leftOut(-1), -1);
            Due.due("leftOut 3", x.leftOut(3), -1);
            for (int far : FAR) {
                Due.due("leads " + far, x.leads(far), -1);
                Due.due("leftOut " + far, x.leftOut(far), -1);
            }
            for (int end = 0; end < 3; end++) {
                Due.due("leads " + end, x.leads(end), jurors == 0 ? -3 : end == 1 ? 1 : 0);
            }
            Due.due("hands", x.hands(), jurors == 0 ? -3 : 11);
            x.juror(1, 0, 0, -1);
        }
    }

    private static void leadsOfEach() {
        for (int jurors = 1; jurors <= 12; jurors++) {
            for (int hands = 0; hands < 2; hands++) {
                ElevenOne x = first(jurors, 5, 8, hands);
                int[] leads = {0, 0, 0};
                for (int leader = 0; leader < jurors; leader++) {
                    x.set(1, leader);
                    leads[x.run(0)] |= 1 << leader;
                }
                x.set(1, 11);
                for (int end = 0; end < 3; end++) {
                    Due.due("leaders of " + jurors + " with which it ends " + end, x.leads(end), leads[end]);
                }
                Due.due("every one has an end", leads[0] + leads[1] + leads[2], (1 << jurors) - 1);
                Due.due("the leader as told is not touched", x.set(1, 0), 11);
            }
        }
    }

    // ---- promise 20

    private static void handsOfEach() {
        for (int leader = 0; leader < 12; leader++) {
            for (int needed = 4; needed <= 12; needed++) {
                ElevenOne x = first(12, leader, needed, 1);
                int withHands = x.run(0);
                x.set(2, 0);
                int withSlips = x.run(0);
                Due.due("hands from " + leader + ", needed " + needed, x.hands(), 10 * withHands + withSlips);
                x.set(2, 1);
                Due.due("whatever is set", x.hands(), 10 * withHands + withSlips);
                Due.due("hands as told are not touched", x.set(2, 1), 1);
            }
        }
        int[] lines = {NO, YES};
        for (int line : lines) {
            ElevenOne x = new ElevenOne();
            x.juror(101, line, 0, -1);
            Due.due("one alone", x.hands(), line == YES ? 11 : 0);
            x.juror(101, -line, 0, -1);
            Due.due("two apart", x.hands(), 22);
            // With hands what 0 shows moves 1.
            x = new ElevenOne();
            x.juror(1, line, 0, -1);
            x.juror(101, line == YES ? 1 : 0, 0, -1);
            Due.due("two apart by slips alone", x.hands(), line == YES ? 12 : 2);
        }
    }

    // ---- promise 21

    private static void leftOutRefusals() {
        ElevenOne x = new ElevenOne();
        for (int end = 0; end < 3; end++) {
            Due.due("leftOut of nobody", x.leftOut(end), -3);
        }
        x.juror(1, YES, 0, -1);
        Due.due("of one: yes", x.leftOut(1), 0);
        Due.due("of one: no", x.leftOut(0), -4);
        Due.due("of one: hung", x.leftOut(2), -4);
    }

    private static ElevenOne apart(int jurors, int no) {
        ElevenOne x = new ElevenOne();
        for (int j = 0; j < jurors; j++) {
            x.juror(30, (no >> j & 1) == 1 ? NO : YES, 0, -1);
        }
        return x;
    }

    private static void leftOutNobody() {
        Due.due("yes without anybody left out", apart(12, 0).leftOut(1), 0);
        Due.due("no without anybody left out", apart(12, 4095).leftOut(0), 0);
        Due.due("hung without anybody left out", apart(12, 1).leftOut(2), 0);
    }

    private static void leftOutThreeAtMost() {
        for (int j = 0; j < 12; j++) {
            Due.due("one", apart(12, 1 << j).leftOut(1), 1 << j);
            Due.due("one", apart(12, 4095 & ~(1 << j)).leftOut(0), 1 << j);
        }
        Due.due("the last two", apart(12, 3072).leftOut(1), 3072);
        Due.due("three", apart(12, 7).leftOut(1), 7);
        Due.due("the last three", apart(12, 3584).leftOut(1), 3584);
        Due.due("three far apart", apart(12, 2065).leftOut(1), 2065);
        Due.due("four are too many", apart(12, 15).leftOut(1), -4);
        Due.due("four are too many", apart(12, 3840).leftOut(1), -4);
        Due.due("three of four", apart(4, 14).leftOut(1), 14);
        Due.due("four of five", apart(5, 30).leftOut(1), -4);
    }

    private static void leftOutOneStays() {
        Due.due("one of one can't be", apart(1, 1).leftOut(1), -4);
        Due.due("two of two can't be", apart(2, 3).leftOut(1), -4);
        Due.due("three of three can't be", apart(3, 7).leftOut(1), -4);
        Due.due("two of three", apart(3, 3).leftOut(1), 3);
        Due.due("one of two", apart(2, 1).leftOut(1), 1);
        Due.due("one of two", apart(2, 1).leftOut(0), 2);
        Due.due("one alone never hangs", apart(1, 0).leftOut(2), -4);
    }

    private static void leftOutFewest() {
        // Juror 3 needs the thing of 4 and that of 0 or of 1: without 4, or without 0 and 1, it hangs.
        ElevenOne x = new ElevenOne();
        x.thing(10);
        x.thing(10);
        x.thing(20);
        x.juror(1001, YES, 0, -1);
        x.juror(1001, YES, 0, -1);
        x.juror(1, YES, 0, -1);
        x.juror(1, 30, 0, -1);
        x.juror(1001, YES, 0, -1);
        x.holds(0, 1);
        x.holds(1, 2);
        x.holds(4, 4);
        Due.due("all together", x.run(0), 1);
        Due.due("one, rather than two that are less as bits", x.leftOut(2), 16);
        x.holds(1, 6);
        Due.due("two, as one is not enough", x.leftOut(2), 3);
    }

    private static void leftOutLeast() {
        // Yes needs as many as there are no less: each of the no sayers will do, of several sets the least.
        ElevenOne x = apart(6, 44);
        x.set(0, 4);
        Due.due("three yes, three no, four needed: hung", x.run(0), 2);
        Due.due("of 4, 8 and 32 the least", x.leftOut(1), 4);
        Due.due("of 1, 2 and 16 the least", x.leftOut(0), 1);
        x = apart(6, 47);
        x.set(0, 6);
        Due.due("no: one alone", x.leftOut(0), 16);
        Due.due("yes: five would have to go", x.leftOut(1), -4);
    }

    private static void leftOutNeeded() {
        // Three yes, four no.
        for (int needed = 1; needed <= 12; needed++) {
            ElevenOne x = apart(7, 120);
            x.set(0, needed);
            int want = needed <= 3 ? 0 : needed == 4 ? 8 : needed == 5 ? 24 : needed == 6 ? 56 : -4;
            Due.due("needed " + needed + ", as many fewer: yes", x.leftOut(1), want);
        }
        // Needed 1: 1 at least, so that none says yes and one no is no.
        ElevenOne x = apart(4, 14);
        x.set(0, 1);
        Due.due("1 at least: no", x.leftOut(0), 1);
        x = apart(4, 12);
        x.set(0, 1);
        Due.due("1 at least: no, without two", x.leftOut(0), 3);
        x = apart(4, 8);
        x.set(0, 2);
        Due.due("1 at least: no, without three", x.leftOut(0), 7);
        // Jurors at most: 12 of 3 are 3, and 2 without one.
        x = apart(3, 4);
        x.set(0, 12);
        Due.due("jurors at most", x.leftOut(1), 4);
        // Two of three left are not enough, if 12 less 1 were needed, nor hung ones then yes.
        Due.due("jurors at most", x.leftOut(2), 0);
        Due.due("needed as told is not touched", x.set(0, 5), 12);
    }

    /** One juror who has the only THING, and one turn; who leads is whose turn it is. */
    private static ElevenOne oneTurn(int teller, int leader) {
        ElevenOne x = new ElevenOne();
        x.thing(20);
        for (int j = 0; j < 5; j++) {
            x.juror(j == teller ? 1030 : 30, 10, 0, -1);
        }
        x.holds(teller, 1);
        x.set(1, leader);
        x.set(3, 1);
        return x;
    }

    private static void leftOutLeader() {
        for (int teller = 0; teller < 5; teller++) {
            for (int leader = 0; leader < 12; leader++) {
                int seat = leader < 5 ? leader : 0;
                ElevenOne x = oneTurn(teller, leader);
                String of = "teller " + teller + ", leader " + leader;
                Due.due(of, x.run(0), teller == seat ? 1 : 2);
                int want = teller == seat ? 0 : leftOutFor(teller, seat);
                Due.due("the leader, if left out, is the first of those left: " + of, x.leftOut(1), want);
            }
        }
    }

    /** With the leader all ahead of the teller have to go, so that it is the first of those left. */
    private static int leftOutFor(int teller, int leader) {
        int set = 1 << leader | (1 << teller) - 1;
        return Integer.bitCount(set) <= 3 ? set : -4;
    }

    private static void leftOutInOrder() {
        // The turns of those left go on in order: 1, (2 is left out), 3: behind two turns both things are out.
        ElevenOne x = new ElevenOne();
        x.thing(20);
        x.thing(20);
        x.juror(1, YES, 0, -1);
        x.juror(1001, 40, 0, -1);
        x.juror(1, NO, 0, -1);
        x.juror(1001, 40, 0, -1);
        x.holds(1, 1);
        x.holds(3, 2);
        x.set(1, 1);
        x.set(3, 2);
        Due.due("the leader keeps its lead, the others their order", x.leftOut(1), 4);
        x.set(3, 1);
        Due.due("one turn is not enough, but for 0 alone", x.leftOut(1), 14);
        // By hands each is pushed by those shown ahead of it, in the order of those left.
        x = new ElevenOne();
        x.juror(101, YES, 0, -1);
        x.juror(101, 1, 0, -1);
        x.juror(101, NO, 0, -1);
        x.juror(101, 2, 0, -1);
        x.set(2, 1);
        x.set(3, 1);
        Due.due("by hands", x.leftOut(1), 4);
        againstEachRoom();
    }

    /** Every set of those left out is seated as a room of its own. */
    private static void againstEachRoom() {
        for (int jurors = 2; jurors <= 7; jurors++) {
            for (int leader = 0; leader < 8; leader += 2) {
                for (int needed = 2; needed <= 12; needed += 3) {
                    ElevenOne x = first(jurors, leader, needed, leader / 2 % 2);
                    int[] least = {-4, -4, -4};
                    int[] size = {9, 9, 9};
                    for (int set = 0; set < (1 << jurors) - 1; set++) {
                        int out = Integer.bitCount(set);
                        int end = out <= 3 ? without(jurors, leader, needed, leader / 2 % 2, set) : -1;
                        if (end >= 0 && out < size[end]) {
                            least[end] = set;
                            size[end] = out;
                        }
                    }
                    for (int end = 0; end < 3; end++) {
                        Due.due("left out of " + jurors + " for " + end, x.leftOut(end), least[end]);
                    }
                }
            }
        }
    }

    private static int without(int jurors, int leader, int needed, int hands, int set) {
        ElevenOne all = first(jurors, leader, needed, hands);
        ElevenOne x = first(0, 0, 12, hands);
        int told = leader < jurors ? leader : 0;
        int seats = 0;
        for (int j = 0; j < jurors; j++) {
            if ((set >> j & 1) == 0) {
                if (j == told) {
                    x.set(1, seats);
                }
                x.juror(1000 * all.of(j, 0) + 100 * all.of(j, 1) + all.of(j, 2), all.of(j, 3), all.of(j, 4), all.of(j, 5));
                x.holds(seats, all.of(j, 6));
                seats++;
            }
        }
        int fewer = (needed < jurors ? needed : jurors) - (jurors - seats);
        x.set(0, fewer < 1 ? 1 : fewer);
        return x.run(0);
    }

    // ---- promise 22

    private static void worldsRefusals() {
        ElevenOne x = new ElevenOne();
        for (int jurors = 0; jurors < 2; jurors++) {
            int none = jurors == 0 ? -3 : 0;
            for (int n = -1; n <= 32; n++) {
                Due.due("worlds " + n, x.worlds(n, 1, 50, 2), n >= 1 && n <= 30 ? none : -1);
            }
            for (int odds = -2; odds <= 102; odds++) {
                Due.due("worlds by " + odds, x.worlds(1, 1, odds, 2), odds >= 0 && odds <= 100 ? none : -1);
            }
            for (int what = -2; what <= 4; what++) {
                boolean there = what >= 0 && what <= 2;
                Due.due("worlds what " + what, x.worlds(1, 1, 50, what) == -1 ? 1 : 0, there ? 0 : 1);
            }
            for (int far : FAR) {
                Due.due("worlds " + far, x.worlds(far, 1, 50, 2), -1);
                Due.due("worlds by " + far, x.worlds(1, 1, far, 2), -1);
                Due.due("worlds what " + far, x.worlds(1, 1, 50, far), -1);
                Due.due("any seed: " + far, x.worlds(1, far, 50, 2), none);
            }
            x.juror(1, 0, 0, -1);
        }
    }

    private static void worldsOdds() {
        ElevenOne x = new ElevenOne();
        for (int i = 0; i < 12; i++) {
            x.thing(20);
        }
        for (int j = 0; j < 12; j++) {
            x.juror(30, 99, 0, -1);
            x.holds(j, j % 2 == 0 ? 4095 : 0);
        }
        for (int z = -3; z < 4; z++) {
            Due.due("0: nobody holds any", x.worlds(30, z, 0, 1), 0);
            Due.due("0: all say no, as at first", x.worlds(30, z, 0, 0), 30);
            Due.due("100: all hold all", x.worlds(30, z, 100, 1), 30);
            Due.due("100: all say yes, as at first", x.worlds(30, z, 100, 0), 30);
            Due.due("never hung", x.worlds(30, z, 0, 2) + x.worlds(30, z, 100, 2), 0);
        }
        Due.due("told things stay", x.holds(0, 0), 4095);
        Due.due("told things stay", x.holds(1, 0), 0);
    }

    /** The next of the seeds, by long numbers. */
    private static int next(int z) {
        long sum = (long) z * 1103515245L + 12345L;
        return (int) (sum & 0xffffffffL);
    }

    private static int chance(int z) {
        long plain = (long) z & 0xffffffffL;
        if (plain >= 2147483648L) {
            plain -= 2147483648L;
        }
        return (int) (plain / 65536L % 100L);
    }

    private static void worldsSeeds() {
        int[] seeds = {0, 1, -1, 5, 12345, -77777, 2147483647, -2147483648, 65535, 1 << 16};
        for (int z : seeds) {
            for (int odds = 1; odds < 100; odds += 7) {
                ElevenOne x = first(12, 3, 9, 0);
                int[] found = {0, 0, 0};
                int[] yes = {0, 0, 0};
                ElevenOne told = first(12, 3, 9, 0);
                int seed = z;
                for (int world = 0; world < 20; world++) {
                    for (int j = 0; j < 12; j++) {
                        int holds = 0;
                        for (int i = 0; i < 12; i++) {
                            seed = next(seed);
                            holds |= chance(seed) < odds ? 1 << i : 0;
                        }
                        told.holds(j, holds);
                    }
                    int end = told.run(0);
                    int first = told.run(3);
                    yes[end]++;
                    found[0] += first > 6 && end == 1 || first < 6 && end == 0 ? 1 : 0;
                }
                String of = " by seed " + z + ", " + odds;
                Due.due("knows" + of, x.worlds(20, z, odds, 0), found[0]);
                Due.due("yes" + of, x.worlds(20, z, odds, 1), yes[1]);
                Due.due("hung" + of, x.worlds(20, z, odds, 2), yes[2]);
            }
        }
        // Juror 1's thing is of the second number, in the first world: of the fourth in the next.
        ElevenOne x = new ElevenOne();
        x.thing(20);
        x.juror(1, YES, 0, -1);
        x.juror(1, 20, 0, -1);
        for (int z = 0; z < 200; z++) {
            int second = chance(next(next(z)));
            int fourth = chance(next(next(next(next(z)))));
            Due.due("below the number", x.worlds(1, z, second + 1, 1), 1);
            Due.due("not below the number", x.worlds(1, z, second, 1), 0);
            int want = (second < 50 ? 1 : 0) + (fourth < 50 ? 1 : 0);
            Due.due("the seed goes on", x.worlds(2, z, 50, 1), want);
        }
    }

    private static void worldsKnow() {
        for (int yes = 0; yes <= 4; yes++) {
            for (int end = 0; end < 2; end++) {
                ElevenOne x = new ElevenOne();
                Due.law(x, end == 1 ? "m" : "0-m");
                for (int j = 0; j < 4; j++) {
                    x.juror(1, j < yes ? 0 : 1, 0, 0);
                }
                // At minute 1 all say what it ends in, if it didn't end at first.
                boolean atOnce = yes == 4 || yes == 0;
                int ends = yes == 4 ? 1 : yes == 0 ? 0 : end;
                Due.due("ends", x.run(0), ends);
                boolean knows = atOnce || yes == 3 && end == 1 || yes == 1 && end == 0;
                Due.due("knows: " + yes + " yes of 4 at first, ends " + ends, x.worlds(7, 1, 50, 0), knows ? 7 : 0);
                Due.due("yes: " + yes, x.worlds(7, 1, 50, 1), ends == 1 ? 7 : 0);
                Due.due("hung: " + yes, x.worlds(7, 1, 50, 2), 0);
            }
        }
        for (int no = 1; no < 8; no++) {
            ElevenOne x = apart(8, (1 << no) - 1);
            Due.due("hung, whatever they said at first: knows", x.worlds(30, 1, 50, 0), 0);
            Due.due("hung, whatever they said at first", x.worlds(30, 1, 50, 2), 30);
        }
    }

    private static void mindAlone() {
        ElevenOne x = first(12, 4, 11, 1);
        x.keep(0, 1, 5);
        x.row(1, 0, 3);
        x.image();
        x.begin();
        x.go(7);
        String before = Seen.of(x);
        for (int n = 1; n <= 12; n++) {
            x.six(n, 0);
            x.lost(n);
            x.moved(n - 1, 0);
            x.moved(n - 1, 1);
            x.out(n - 1);
        }
        for (int end = 0; end < 3; end++) {
            x.leads(end);
            x.leftOut(end);
            x.worlds(30, 9, 50, end);
        }
        x.hands();
        x.one();
        Due.same("what is asked in mind changes nothing", Seen.of(x), before);
        x.go(1);
        Due.due("the talk goes on", x.talk(3), 8);
    }
}

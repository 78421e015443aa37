/** Promises 9 to 22: talks, and runs in mind. */
public final class TalksTest {
    public static void main(String[] args) {
        refusals();
        beginAndGo();
        hung();
        needed();
        handsFirst();
        thingTurns();
        storyTurns();
        countTurns();
        pressTurns();
        ruleTurns();
        sleepers();
        runIsInMind();
        six();
        leadersAndLost();
        leftOut();
        leaderLeftOut();
        worlds();
        Due.finish();
    }

    private static final int YES = -99;
    private static final int NO = 99;

    private static void refusals() {
        ElevenOne x = new ElevenOne();
        x.thing(1);
        Due.due("begin", x.begin(), -3);
        Due.due("go 1", x.go(1), -3);
        Due.due("go 0", x.go(0), -1);
        Due.due("go 61", x.go(61), -1);
        Due.due("talk 0", x.talk(0), -3);
        Due.due("talk -1", x.talk(-1), -1);
        Due.due("talk 6", x.talk(6), -1);
        Due.due("run 0", x.run(0), -3);
        Due.due("run 5", x.run(5), -1);
        Due.due("run -1", x.run(-1), -1);
        Due.due("slips", x.slips(true), -3);
        Due.due("slips", x.slips(false), -3);
        Due.due("moved", x.moved(0, 0), Due.MISSING);
        Due.due("out 0", x.out(0), -3);
        Due.due("out 1", x.out(1), -1);
        Due.due("out -1", x.out(-1), -1);
        Due.due("one", x.one(), 0);
        Due.due("six", x.six(1, 0), -1);
        Due.due("lost 1", x.lost(1), -3);
        Due.due("lost 0", x.lost(0), -1);
        Due.due("lost 13", x.lost(13), -1);
        Due.due("leads 0", x.leads(0), -3);
        Due.due("leads -1", x.leads(-1), -1);
        Due.due("leads 3", x.leads(3), -1);
        Due.due("hands", x.hands(), -3);
        Due.due("leftOut 2", x.leftOut(2), -3);
        Due.due("leftOut 3", x.leftOut(3), -1);
        Due.due("leftOut -1", x.leftOut(-1), -1);
        Due.due("worlds", x.worlds(1, 0, 0, 0), -3);
        int[][] wrong = {{0, 0, 0}, {31, 0, 0}, {1, -1, 0}, {1, 101, 0}, {1, 0, -1}, {1, 0, 3}};
        for (int[] w : wrong) {
            Due.due("worlds", x.worlds(w[0], 5, w[1], w[2]), -1);
        }
        x.juror(1, 0, 0, -1);
        Due.due("begun", x.talk(0), -3);
        Due.due("moved 1 0", x.moved(1, 0), Due.MISSING);
        Due.due("moved -1 0", x.moved(-1, 0), Due.MISSING);
        Due.due("moved 0 -1", x.moved(0, -1), Due.MISSING);
        Due.due("moved 0 3", x.moved(0, 3), Due.MISSING);
        Due.due("six 1 3", x.six(1, 3), -1);
        Due.due("six 1 -1", x.six(1, -1), -1);
        Due.due("six 2 0", x.six(2, 0), -1);
        Due.due("six 0 0", x.six(0, 0), -1);
    }

    private static void beginAndGo() {
        ElevenOne x = new ElevenOne();
        x.juror(7, YES, 0, -1);
        x.juror(8, NO, 0, -1);
        x.juror(9, NO, 0, -1);
        x.set(1, 1);
        Due.due("begin", x.begin(), 1);
        x.set(1, 0);
        int[] first = {0, 1, 2, 0, 0, -4};
        for (int what = 0; what < 6; what++) {
            Due.due("talk " + what, x.talk(what), first[what]);
        }
        Due.due("the leader is of the talk as it began", x.go(1), -4);
        Due.due("minute behind juror 1", x.talk(0), 8);
        x.go(1);
        Due.due("minute behind juror 2", x.talk(0), 17);
        x.go(1);
        Due.due("minute behind juror 0", x.talk(0), 24);
        x.go(60);
        Due.due("turns", x.talk(3), 63);
        Due.due("minute", x.talk(0), 21 * 24);
        Due.due("begin anew", x.begin(), 1);
        Due.due("no turns", x.talk(3), 0);
        x.go(1);
        Due.due("the new leader", x.talk(0), 7);
        x.set(1, 11);
        x.begin();
        x.go(1);
        Due.due("a leader who isn't there is 0", x.talk(0), 7);
    }

    private static void hung() {
        ElevenOne x = new ElevenOne();
        x.juror(30, YES, 0, -1);
        x.juror(30, NO, 0, -1);
        x.set(3, 31);
        x.begin();
        Due.due("a turn begins ahead of the limit", x.go(1), -4);
        Due.due("hung", x.go(1), 2);
        Due.due("hung at", x.talk(0), 60);
        Due.due("no turn more", x.go(60), 2);
        Due.due("turns", x.talk(3), 2);
        Due.due("ends", x.talk(5), 2);
        Due.due("run", x.run(0), 2);
        Due.due("run's minute", x.run(1), 60);
        x.set(3, 30);
        Due.due("run at the limit itself", x.run(1), 30);
        Due.due("run's turns", x.run(2), 1);
        x.set(3, 1);
        Due.due("run with limit 1", x.run(2), 1);
    }

    private static void needed() {
        ElevenOne x = new ElevenOne();
        x.juror(5, YES, 0, -1);
        x.juror(5, YES, 0, -1);
        x.juror(5, NO, 0, -1);
        x.juror(5, NO, 0, -1);
        Due.due("all needed", x.run(0), 2);
        x.set(0, 4);
        Due.due("four needed", x.run(0), 2);
        x.set(0, 3);
        Due.due("three needed", x.run(0), 2);
        x.set(0, 2);
        Due.due("yes is asked first", x.run(0), 1);
        Due.due("at once", x.run(1), 0);
        Due.due("without turns", x.run(2), 0);
        Due.due("yes at first", x.run(3), 2);
        Due.due("slips", x.slips(true), 3);
        x.begin();
        Due.due("ends at once", x.talk(5), 1);
        Due.due("no turns", x.go(60), 1);
        Due.due("minute 0", x.talk(0), 0);
        // What is NEEDED, and the LIMIT, are asked as they are now.
        x.set(0, 3);
        Due.due("goes on, as more are needed", x.talk(5), -4);
        x.go(2);
        x.set(3, 10);
        Due.due("hung, as the limit is less", x.talk(5), 2);
        Due.due("and no turn begins", x.go(1), 2);
        Due.due("turns", x.talk(3), 2);
    }

    private static void handsFirst() {
        ElevenOne x = new ElevenOne();
        x.juror(301, 0, 0, -1);
        x.juror(201, 1, 0, -1);
        x.juror(401, -7, 0, -1);
        Due.due("law", Due.law(x, "p+10*y+10*n+m"), 0);
        x.juror(501, 6, 0, 0);
        x.set(3, 1);
        Due.due("slips", x.slips(true), 5);
        x.set(2, 1);
        // 0: p 0 yes; 1: p 2 yes; 2: p 8 yes; 3: p 15 yes
        Due.due("hands", x.slips(true), 15);
        x.begin();
        Due.due("pushed 0", x.of(0, 7), 0);
        Due.due("pushed 1", x.of(1, 7), 2);
        Due.due("pushed 2", x.of(2, 7), 8);
        Due.due("pushed 3", x.of(3, 7), 15);
        Due.due("moved behind the first slips", x.moved(3, 1), 0);
        x.set(1, 1);
        // 1: p 0 no; 2: p -4 yes; 3: p 0 no; 0: p -3 no
        Due.due("hands from juror 1", x.begin(), 1);
        Due.due("slips from juror 1", x.slips(true), 4);
        Due.due("pushed 1", x.of(1, 7), 0);
        Due.due("pushed 2", x.of(2, 7), -4);
        Due.due("pushed 3", x.of(3, 7), 0);
        Due.due("pushed 0", x.of(0, 7), -3);
        x.set(0, 3);
        // With SLIPS two say yes at first; behind the first turn juror 3 says it too, by y and n.
        Due.due("hands no, slips yes", x.hands(), 1);
        x.set(1, 0);
        Due.due("hands yes, slips yes", x.hands(), 11);
        x.set(0, 4);
        Due.due("hands yes, slips hung", x.hands(), 12);
        x.set(2, 0);
        Due.due("hands whatever is set", x.hands(), 12);
    }

    private static void thingTurns() {
        ElevenOne x = new ElevenOne();
        x.thing(4);
        x.thing(-9);
        x.thing(9);
        x.thing(0);
        x.thing(20);
        x.juror(1005, 50, 0, -1);
        x.juror(5, -50, 0, -1);
        Due.due("one, of none", x.one(), 0);
        x.holds(0, 31);
        x.holds(1, 16);
        Due.due("one", x.one(), 15);
        Due.due("count 4", x.count(4), 16);
        x.begin();
        Due.due("talk 4 at first", x.talk(4), 16);
        x.go(1);
        Due.due("the loudest, of several the least", x.of(1, 6), 18);
        Due.due("leans", x.leans(1), 11);
        x.go(2);
        Due.due("then the next", x.of(1, 6), 22);
        x.go(2);
        Due.due("then the next", x.of(1, 6), 23);
        x.go(2);
        Due.due("one that speaks 0 is the last", x.talk(4), 31);
        x.go(2);
        Due.due("then nothing", x.talk(4), 31);
        Due.due("as told still", x.count(4), 16);
        Due.due("one as told still", x.one(), 15);
        Due.due("out 4", x.out(4), 0);
        Due.due("out 1", x.out(1), 0);
        Due.due("out 2", x.out(2), 10);
        Due.due("out 0", x.out(0), 20);
        Due.due("out 3", x.out(3), 30);
        x.set(3, 30);
        Due.due("out 3 within 30 minutes", x.out(3), -4);
        Due.due("out 0 within 30 minutes", x.out(0), 20);
        Due.due("moved by things", x.moved(1, 0), 4);
        Due.due("moved by things it held", x.moved(0, 0), 0);
        Due.due("moved by pushes", x.moved(1, 1), 0);
        Due.due("a thing that nobody holds", x.thing(5), 5);
        Due.due("never comes out", x.out(5), -4);
        x.juror(5, 0, 0, -1);
        x.holds(2, 32);
        x.holds(1, 32);
        Due.due("two hold it", x.one() & 32, 0);
    }

    private static void storyTurns() {
        ElevenOne x = new ElevenOne();
        x.thing(3);
        x.juror(4001, 0, 0, -1);
        x.juror(1, 7, 0, -1);
        x.juror(1, 8, 0, -1);
        x.juror(1, -1, 0, -1);
        x.juror(1, -2, 0, -1);
        x.holds(0, 1);
        // Behind the thing all lean 3: 1 is 4 from its line, 2 is 5, 3 is 4, 4 is 5.
        x.begin();
        x.go(1);
        int[] pushed = {2, 2, 0, 2, 0};
        for (int j = 0; j < 5; j++) {
            Due.due("a yes story pushes " + j, x.of(j, 7), pushed[j]);
        }
        Due.due("moved by pushes", x.six(5, 0), 2);
        x = new ElevenOne();
        x.thing(3);
        x.juror(4001, 5, 0, -1);
        x.juror(1, 7, 0, -1);
        x.juror(1, -99, 0, -1);
        x.holds(0, 1);
        x.begin();
        x.go(1);
        Due.due("a no story pushes itself", x.of(0, 7), -2);
        Due.due("a no story pushes 1", x.of(1, 7), -2);
        Due.due("a no story leaves 2", x.of(2, 7), 0);
        // A leaning at the end of the ints is far from every line.
        x = new ElevenOne();
        Due.law(x, "((0-512)*512*512*16)");
        x.juror(4001, 0, 0, -1);
        x.juror(1, 99, 0, 0);
        x.begin();
        x.go(1);
        Due.due("a leaning far below", x.of(1, 7), 0);
    }

    private static void countTurns() {
        ElevenOne x = new ElevenOne();
        x.juror(2301, YES, 0, -1);
        x.juror(901, NO, 0, -1);
        x.juror(101, NO, 0, -1);
        x.juror(501, NO, 0, -1);
        x.begin();
        x.go(1);
        // yes less no is -2
        int[] pushed = {-1, -4, 0, -2};
        for (int j = 0; j < 4; j++) {
            Due.due("a count pushes " + j, x.of(j, 7), pushed[j]);
        }
        x.set(3, 1);
        Due.due("moved by pushes", x.moved(1, 1), -4);
    }

    private static void pressTurns() {
        ElevenOne x = new ElevenOne();
        x.juror(3301, YES, 0, -1);
        x.juror(901, NO, 0, -1);
        x.juror(101, NO, 0, -1);
        x.juror(501, NO, 0, -1);
        x.begin();
        x.go(1);
        int[] pushed = {-7, -4, 0, -2};
        for (int j = 0; j < 4; j++) {
            Due.due("a press to no pushes " + j, x.of(j, 7), pushed[j]);
        }
        x = new ElevenOne();
        x.juror(3301, YES, 0, -1);
        x.juror(901, YES, 0, -1);
        x.juror(201, NO, 0, -1);
        x.begin();
        x.go(1);
        int[] toYes = {0, 2, 4};
        for (int j = 0; j < 3; j++) {
            Due.due("a press to yes pushes " + j, x.of(j, 7), toYes[j]);
        }
        x = new ElevenOne();
        x.juror(3301, YES, 0, -1);
        x.juror(901, NO, 0, -1);
        x.begin();
        x.go(1);
        Due.due("as many: nobody", x.of(0, 7), 0);
        Due.due("as many: nobody", x.of(1, 7), 0);
    }

    private static void ruleTurns() {
        ElevenOne x = new ElevenOne();
        x.juror(2901, YES, 0, -1);
        x.juror(5701, YES, 0, -1);
        x.juror(501, YES, 0, -1);
        x.juror(301, NO, 0, -1);
        x.juror(1, YES, 0, -1);
        // yes less no is 3: 27 by 4, 21 by 4, 15 by 4, 9 by 4
        x.begin();
        x.go(1);
        int[] counted = {6, 5, 3, 2, 0};
        int[] halved = {3, 2, 1, 1, 0};
        for (int j = 0; j < 5; j++) {
            Due.due("counted " + j, x.of(j, 7), counted[j]);
        }
        x.go(1);
        for (int j = 0; j < 5; j++) {
            Due.due("halved " + j, x.of(j, 7), halved[j]);
        }
        x = new ElevenOne();
        x.juror(2901, NO, 0, -1);
        x.juror(5701, NO, 0, -1);
        x.juror(501, NO, 0, -1);
        x.juror(301, YES, 0, -1);
        x.begin();
        x.go(2);
        // yes less no is -2: -18 by 4 is -4, -14 by 4 is -3, -10 by 4 is -2, -6 by 4 is -1
        int[] below = {-2, -1, -1, 0};
        for (int j = 0; j < 4; j++) {
            Due.due("halved toward 0 " + j, x.of(j, 7), below[j]);
        }
    }

    private static void sleepers() {
        ElevenOne x = new ElevenOne();
        x.juror(7010, NO, 20, -1);
        x.juror(7010, NO, 11, -1);
        x.juror(10, YES, 0, -1);
        x.juror(6010, YES, 0, -1);
        x.juror(10, YES, 0, -1);
        x.set(0, 5);
        x.begin();
        x.go(1);
        Due.due("awake at minute 0", x.of(0, 9), 0);
        x.go(1);
        Due.due("awake at minute 10", x.of(1, 9), 0);
        x.go(3);
        Due.due("a silent one never gives in", x.of(3, 9), 0);
        x.go(1);
        Due.due("gave in at minute 50", x.of(0, 9), 1);
        Due.due("says yes, as more do", x.of(0, 8), 1);
        Due.due("leans as ever", x.leans(0), 0);
        Due.due("yes", x.go(1), 1);
        Due.due("minute", x.talk(0), 70);
        Due.due("run", x.run(1), 70);
        Due.due("moved 2", x.moved(1, 2), 1);
        Due.due("moved 2 of one awake", x.moved(2, 2), 0);
        Due.due("slips at first", x.slips(true), 28);
        Due.due("slips in the end", x.slips(false), 31);
        Due.due("yes in the end", x.run(4), 5);
        x = new ElevenOne();
        x.juror(7010, NO, 0, -1);
        x.juror(10, YES, 0, -1);
        Due.due("yes, if as many", x.run(0), 1);
        x = new ElevenOne();
        x.juror(7010, YES, 0, -1);
        x.juror(10, NO, 0, -1);
        x.juror(10, NO, 0, -1);
        Due.due("no, as more do", x.run(0), 0);
        Due.due("no one says yes", x.slips(false), 0);
        // It says so from then on: what the others turn to does not move it.
        x = new ElevenOne();
        Due.law(x, "m");
        x.juror(7010, YES, 0, -1);
        x.juror(10, 20, 0, 0);
        x.juror(10, 20, 0, 0);
        x.begin();
        Due.due("no at minute 10", x.go(1), 0);
        x = new ElevenOne();
        Due.law(x, "m");
        x.juror(7010, 0, 0, -1);
        x.juror(10, 10, 0, 0);
        x.juror(10, 10, 0, 0);
        x.begin();
        Due.due("gave in to no", x.go(1), -4);
        Due.due("says no", x.of(0, 8), 0);
        x.go(3);
        Due.due("a second turn changes nothing", x.of(0, 8), 0);
        Due.due("two say yes", x.talk(1), 2);
        Due.due("run", x.run(0), 2);
        // Whoever is PATIENT to the very minute gives in.
        x = new ElevenOne();
        x.juror(10, YES, 0, -1);
        x.juror(7010, NO, 10, -1);
        Due.due("at its patience", x.run(1), 20);
    }

    private static void runIsInMind() {
        ElevenOne x = new ElevenOne();
        x.thing(10);
        x.juror(1003, 5, 0, -1);
        x.juror(4, 5, 0, -1);
        x.holds(0, 1);
        Due.due("run", x.run(0), 1);
        Due.due("run's minute", x.run(1), 3);
        Due.due("run's turns", x.run(2), 1);
        Due.due("run's first yes", x.run(3), 1);
        Due.due("run's last yes", x.run(4), 2);
        Due.due("the talk has not begun", x.talk(0), -3);
        Due.due("nothing held more", x.of(1, 6), 0);
        x.begin();
        x.worlds(30, 1, 50, 0);
        x.leftOut(2);
        x.leads(1);
        x.hands();
        x.lost(1);
        x.six(1, 0);
        Due.due("the talk stays", x.talk(0), 0);
        Due.due("told things stay", x.of(0, 6), 1);
        Due.due("told things stay", x.of(1, 6), 0);
        Due.due("goes on", x.go(60), 1);
        Due.due("held by all", x.talk(4), 1);
        Due.due("a run begins as told", x.run(3), 1);
    }

    private static void six() {
        ElevenOne x = new ElevenOne();
        x.thing(10);
        x.juror(2, 5, 0, -1);
        x.juror(1003, 5, 0, -1);
        x.juror(1, 99, 0, -1);
        x.holds(1, 1);
        Due.due("six 1", x.six(1, 0), 0);
        Due.due("six 1", x.six(1, 1), 0);
        Due.due("six 1", x.six(1, 2), 0);
        Due.due("six 2", x.six(2, 0), 1);
        Due.due("six 2", x.six(2, 1), 5);
        Due.due("six 2", x.six(2, 2), 3);
        x.set(1, 1);
        Due.due("six 2 from 1", x.six(2, 1), 3);
        x.set(1, 2);
        Due.due("six 2 from one who isn't there", x.six(2, 1), 5);
        Due.due("six 3", x.six(3, 0), 2);
        x.set(0, 2);
        Due.due("six 3, two needed, from 2", x.six(3, 1), 0);
        Due.due("six 3, two needed", x.six(3, 0), 0);
        x.set(0, 1);
        Due.due("six 2, one needed", x.six(2, 0), 1);
        Due.due("six 2, one needed", x.six(2, 2), 2);
        Due.due("nothing set", x.set(0, 12), 1);
        Due.due("nothing set", x.set(1, 0), 2);
    }

    private static void leadersAndLost() {
        ElevenOne x = new ElevenOne();
        x.thing(10);
        x.thing(-20);
        x.juror(1003, 5, 0, -1);
        x.juror(3, 5, 0, -1);
        x.juror(1003, 5, 0, -1);
        x.holds(0, 1);
        x.holds(2, 2);
        // From 0: behind its turn jurors 0 and 1 say yes, behind that of 2 nobody. From 2: nobody does at once.
        Due.due("ends", x.run(0), 0);
        Due.due("leads no", x.leads(0), 7);
        x.set(0, 2);
        Due.due("at first two say no", x.leads(0), 7);
        Due.due("lost at 2", x.lost(2), 3);
        Due.due("lost at 1", x.lost(1), 3);
        Due.due("lost at 3", x.lost(3), 0);
        Due.due("lost at 12", x.lost(12), 0);
        x.set(0, 12);
        x.set(3, 3);
        Due.due("hung in one turn from 0 and 1", x.leads(2), 3);
        Due.due("no in one turn from 2", x.leads(0), 4);
        Due.due("yes from none", x.leads(1), 0);
        Due.due("the leader is as it was", x.set(1, 5), 0);
    }

    private static void leftOut() {
        ElevenOne x = new ElevenOne();
        x.juror(1, YES, 0, -1);
        x.juror(1, NO, 0, -1);
        x.juror(1, YES, 0, -1);
        x.juror(1, NO, 0, -1);
        x.juror(1, YES, 0, -1);
        Due.due("nobody", x.leftOut(2), 0);
        Due.due("for yes", x.leftOut(1), 10);
        Due.due("for no", x.leftOut(0), 21);
        x.set(0, 3);
        Due.due("three needed: yes", x.leftOut(1), 0);
        // One out: 2 needed, two out: 1; yes is asked first, so nobody may be left who says it.
        Due.due("three needed: no", x.leftOut(0), 21);
        Due.due("three needed: hung", x.leftOut(2), -4);
        x.set(0, 1);
        Due.due("one needed: yes", x.leftOut(1), 0);
        Due.due("one needed: no", x.leftOut(0), 21);
        x = new ElevenOne();
        x.juror(1, NO, 0, -1);
        Due.due("one stays", x.leftOut(1), -4);
        Due.due("one stays", x.leftOut(0), 0);
        for (int i = 1; i < 5; i++) {
            x.juror(1, i == 1 ? YES : NO, 0, -1);
        }
        Due.due("three at most", x.leftOut(1), -4);
        // The LEADER, left out, is the first of those left; else it stays the leader at its new place.
        x = new ElevenOne();
        x.thing(10);
        x.thing(-20);
        x.juror(1003, 5, 0, -1);
        x.juror(3, 5, 0, -1);
        x.juror(1003, 5, 0, -1);
        x.juror(1, YES, 0, -1);
        x.holds(0, 1);
        x.holds(2, 2);
        x.set(1, 2);
        x.set(3, 3);
        Due.due("no without 3, from 2", x.leftOut(0), 8);
        Due.due("yes without the leader", x.leftOut(1), 4);
        x.set(1, 0);
        // Without 0 and 3 juror 1 leads (the first left): 1 at 0, 2 at -20, both no at once.
        Due.due("no from 0", x.leftOut(0), 9);
    }

    private static void leaderLeftOut() {
        // Without juror 1 the first of those left leads: 0, whose THING moves 2 in the one turn that there is.
        ElevenOne x = new ElevenOne();
        x.thing(10);
        x.juror(1003, 5, 0, -1);
        x.juror(3, NO, 0, -1);
        x.juror(3, 5, 0, -1);
        x.holds(0, 1);
        x.set(1, 1);
        x.set(3, 3);
        Due.due("yes without the leader", x.leftOut(1), 2);
        // Without juror 0 juror 2 leads still, as the second of those left.
        x = new ElevenOne();
        x.thing(10);
        x.juror(3, NO, 0, -1);
        x.juror(3, 5, 0, -1);
        x.juror(1003, 5, 0, -1);
        x.holds(2, 1);
        x.set(1, 2);
        x.set(3, 3);
        Due.due("yes under the leader", x.leftOut(1), 1);
        x.set(1, 11);
        Due.due("a leader who isn't there is 0, and left out the first of those left", x.leftOut(1), 3);
    }

    private static void worlds() {
        ElevenOne x = new ElevenOne();
        x.thing(10);
        x.juror(1, 5, 0, -1);
        x.juror(1, 5, 0, -1);
        Due.due("nobody holds it", x.worlds(30, 7, 0, 0), 30);
        Due.due("nobody says yes", x.worlds(30, 7, 0, 1), 0);
        Due.due("all hold it", x.worlds(30, 7, 100, 1), 30);
        Due.due("never hung", x.worlds(30, 7, 100, 2), 0);
        int z = -77;
        int yes = 0;
        int hung = 0;
        int knows = 0;
        for (int i = 0; i < 25; i++) {
            z = z * 1103515245 + 12345;
            boolean first = (z & 0x7fffffff) / 65536 % 100 < 40;
            z = z * 1103515245 + 12345;
            boolean second = (z & 0x7fffffff) / 65536 % 100 < 40;
            yes += first && second ? 1 : 0;
            hung += first != second ? 1 : 0;
            knows += first == second ? 1 : 0;
        }
        Due.due("worlds yes", x.worlds(25, -77, 40, 1), yes);
        Due.due("worlds hung", x.worlds(25, -77, 40, 2), hung);
        Due.due("worlds known", x.worlds(25, -77, 40, 0), knows);
        Due.due("there are such", yes > 0 && hung > 0 ? 1 : 0, 1);
        // As many yes as no at first: it doesn't KNOW, however it ENDS.
        x = new ElevenOne();
        x.juror(7001, NO, 0, -1);
        x.juror(1, YES, 0, -1);
        Due.due("ends yes", x.worlds(3, 0, 50, 1), 3);
        Due.due("isn't known", x.worlds(3, 0, 50, 0), 0);
        x = new ElevenOne();
        Due.law(x, "0-m");
        x.juror(1, NO, 0, -1);
        x.juror(1, 0, 0, 0);
        Due.due("ends no from as many", x.run(0), 0);
        Due.due("isn't known", x.worlds(3, 0, 50, 0), 0);
        x.juror(1, 0, 0, 0);
        Due.due("ends no from more yes", x.run(0), 0);
        Due.due("isn't known", x.worlds(3, 0, 50, 0), 0);
        x = new ElevenOne();
        Due.law(x, "m");
        x.juror(1, YES, 0, -1);
        x.juror(1, 1, 0, 0);
        x.juror(1, 1, 0, 0);
        Due.due("ends yes from more no", x.worlds(3, 0, 50, 1), 3);
        Due.due("isn't known", x.worlds(3, 0, 50, 0), 0);
    }
}

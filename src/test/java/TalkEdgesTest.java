/** The boundary cases that promises 9 to 11 and their terms name (the talk, the kinds of turns), a sentence at a time. */
public final class TalkEdgesTest {
    private static final int[] FAR = {Integer.MIN_VALUE, Integer.MIN_VALUE + 1, -1000000, 1000000, Integer.MAX_VALUE};
    private static final int YES = -99;
    private static final int NO = 99;

    public static void main(String[] args) {
        beginWithoutJurors();
        lineOrMore();
        lineAtItsEnds();
        leaningAtTheEndsOfInts();
        firstSlipsWithAllAtZero();
        beginAnew();
        beginOfTwelve();
        handsShownSoFar();
        handsGoRound();
        handsWithoutSuchLeader();
        handsWithoutYesAndNo();
        goRefusals();
        goNoFurtherThanTheEnd();
        goStopsWithin();
        neededOrMore();
        neededIsAllOfFewer();
        yesIsAskedFirst();
        limitToTheMinute();
        limitAtItsEnds();
        endsAheadOfHung();
        turnsGoRound();
        leaderOfTheTalk();
        minuteGrowsAheadOfSlips();
        slipsAreTakenTogether();
        plainAndSilentDoNothing();
        thingThatThereIsNot();
        thingThatSpeaksMost();
        storyLessThanFive();
        storyFarAtTheEndsOfInts();
        storyAsMinuteIsNow();
        storyAsSlipsAreNow();
        storyBehindItsThing();
        storyBySlip();
        countCutTowardZero();
        pressOnTheFewer();
        ruleCutTowardZero();
        patienceToTheMinute();
        givesInToMore();
        givesInOnce();
        saysSoFromThenOn();
        talkRefusals();
        talkAtItsEnds();
        Due.finish();
    }

    // ---- promise 9

    private static void beginWithoutJurors() {
        ElevenOne x = new ElevenOne();
        Due.due("begin with nobody", x.begin(), -3);
        x.thing(20);
        Due.due("begin with things alone", x.begin(), -3);
        Due.due("refused, it hasn't begun", x.talk(0), -3);
        Due.due("refused, it hasn't begun", x.go(1), -3);
        x.juror(1, 0, 0, -1);
        Due.due("a juror is there, but no talk", x.talk(0), -3);
        Due.due("begin with one", x.begin(), 1);
    }

    private static void lineOrMore() {
        for (int speaks = -20; speaks <= 20; speaks++) {
            ElevenOne x = new ElevenOne();
            x.thing(speaks);
            for (int more = -1; more <= 1; more++) {
                x.juror(1, speaks + more, 0, -1);
                x.holds(more + 1, 1);
            }
            Due.due("its line or more, " + speaks, x.begin(), 2);
            Due.due("above its line", x.of(0, 8), 1);
            Due.due("at its line", x.of(1, 8), 1);
            Due.due("below its line", x.of(2, 8), 0);
        }
    }

    private static void lineAtItsEnds() {
        for (int side = -1; side <= 1; side += 2) {
            ElevenOne x = new ElevenOne();
            for (int i = 0; i < 4; i++) {
                x.thing(20 * side);
            }
            x.thing(18 * side);
            x.thing(1 * side);
            x.thing(1 * side);
            x.juror(1, 99 * side, 0, -1);
            int[] holds = {31, 63, 127};
            for (int i = 0; i < 3; i++) {
                x.holds(0, holds[i]);
                int leans = (98 + i) * side;
                Due.due("line " + 99 * side + ", leans " + leans, x.begin(), leans >= 99 * side ? 1 : 0);
                Due.due("leans " + leans, x.leans(0), leans);
            }
        }
    }

    private static final String LEAST = "(0-512)*512*512*16";

    private static void leaningAtTheEndsOfInts() {
        ElevenOne x = new ElevenOne();
        Due.law(x, LEAST);
        Due.law(x, LEAST + "-1");
        x.juror(1, YES, 0, 0);
        x.juror(1, NO, 0, 0);
        x.juror(1, YES, 0, 1);
        x.juror(1, NO, 0, 1);
        Due.due("the least is below every line, the most above", x.begin(), 2);
        Due.due("those of the most say yes", x.slips(false), 12);
        Due.due("leans the least", x.leans(0), Integer.MIN_VALUE);
        Due.due("leans the most", x.leans(3), Integer.MAX_VALUE);
    }

    private static void storyFarAtTheEndsOfInts() {
        int[] lines = {-99, -5, -1, 0, 1, 5, 99};
        for (int line : lines) {
            ElevenOne x = new ElevenOne();
            Due.law(x, LEAST);
            Due.law(x, LEAST + "-1");
            x.juror(4001, YES, 0, -1);
            x.juror(1, line, 0, 0);
            x.juror(1, line, 0, 1);
            x.begin();
            x.go(1);
            Due.due("the least is far from the line " + line, x.of(1, 7), 0);
            Due.due("the most is far from the line " + line, x.of(2, 7), 0);
        }
    }

    private static void firstSlipsWithAllAtZero() {
        ElevenOne x = new ElevenOne();
        Due.law(x, "999*(y+n+m+p)");
        Due.law(x, "0-999*(y+n+m+p)");
        x.juror(2930, YES, 0, -1);
        x.juror(930, 1, 0, 0);
        x.juror(930, 0, 0, 1);
        x.juror(930, NO, 0, -1);
        for (int i = 0; i < 3; i++) {
            Due.due("y, n, m and p are 0 at first", x.begin(), 2);
            Due.due("nothing but 0 at first", x.slips(true), 5);
            Due.due("line 1", x.of(1, 8), 0);
            Due.due("line 0", x.of(2, 8), 1);
            x.go(i + 1);
        }
    }

    private static void beginAnew() {
        ElevenOne x = new ElevenOne();
        x.thing(9);
        x.juror(1905, 5, 0, -1);
        x.juror(2905, NO, 0, -1);
        x.juror(7905, NO, 0, -1);
        x.juror(905, YES, 0, -1);
        x.holds(0, 1);
        Due.due("begin", x.begin(), 2);
        x.go(3);
        Due.due("gave in", x.of(2, 9), 1);
        Due.due("minute", x.talk(0), 15);
        Due.due("anew", x.begin(), 2);
        int[] talk = {0, 2, 2, 0, 0, -4};
        for (int what = 0; what < 6; what++) {
            Due.due("anew: talk " + what, x.talk(what), talk[what]);
        }
        for (int j = 0; j < 4; j++) {
            Due.due("anew: holds", x.of(j, 6), j == 0 ? 1 : 0);
            Due.due("anew: pushed", x.of(j, 7), 0);
            Due.due("anew, without giving in", x.of(j, 9), 0);
            Due.due("anew: leans", x.leans(j), j == 0 ? 9 : 0);
        }
    }

    private static void beginOfTwelve() {
        for (int yes = 0; yes <= 12; yes++) {
            ElevenOne x = new ElevenOne();
            for (int j = 0; j < 12; j++) {
                x.juror(1, j < yes ? YES : NO, 0, -1);
            }
            Due.due("how many say yes of twelve", x.begin(), yes);
            Due.due("yes", x.talk(1), yes);
            Due.due("no", x.talk(2), 12 - yes);
            Due.due("ends", x.talk(5), yes == 12 ? 1 : yes == 0 ? 0 : -4);
        }
    }

    private static void handsShownSoFar() {
        for (int heeds = 0; heeds <= 9; heeds++) {
            ElevenOne yes = new ElevenOne();
            ElevenOne no = new ElevenOne();
            for (int j = 0; j < 12; j++) {
                yes.juror(100 * heeds + 1, j == 11 ? 11 * heeds : YES, 0, -1);
                no.juror(100 * heeds + 1, j == 11 ? -11 * heeds + 1 : NO, 0, -1);
            }
            yes.set(2, 1);
            no.set(2, 1);
            Due.due("all show yes", yes.begin(), 12);
            Due.due("all show no", no.begin(), 0);
            for (int j = 0; j < 12; j++) {
                Due.due("for each yes shown so far", yes.of(j, 7), j * heeds);
                Due.due("less for each no", no.of(j, 7), -j * heeds);
            }
        }
    }

    private static void handsGoRound() {
        for (int leader = 0; leader < 5; leader++) {
            ElevenOne x = new ElevenOne();
            for (int j = 0; j < 5; j++) {
                x.juror(101, YES, 0, -1);
            }
            x.set(1, leader);
            x.set(2, 1);
            x.begin();
            for (int j = 0; j < 5; j++) {
                Due.due("from the leader " + leader + " on by numbers round, " + j, x.of(j, 7), (j - leader + 5) % 5);
            }
        }
    }

    private static void handsWithoutSuchLeader() {
        for (int leader = 3; leader < 12; leader++) {
            ElevenOne x = new ElevenOne();
            for (int j = 0; j < 3; j++) {
                x.juror(101, YES, 0, -1);
            }
            x.set(1, leader);
            x.set(2, 1);
            x.begin();
            for (int j = 0; j < 3; j++) {
                Due.due("0, if there isn't such a juror as " + leader, x.of(j, 7), j);
            }
        }
    }

    private static void handsWithoutYesAndNo() {
        ElevenOne x = new ElevenOne();
        Due.law(x, "999*(y+n+m)");
        x.juror(101, YES, 0, -1);
        x.juror(101, NO, 0, -1);
        x.juror(101, 1, 0, 0);
        x.juror(101, 0, 0, 0);
        x.set(2, 1);
        Due.due("with hands y and n are 0 still", x.begin(), 2);
        Due.due("line 1", x.of(2, 8), 0);
        Due.due("line 0", x.of(3, 8), 1);
        Due.due("then they are not", x.leans(2), 999 * 4);
    }

    // ---- promise 10

    private static void goRefusals() {
        ElevenOne x = new ElevenOne();
        for (int state = 0; state < 3; state++) {
            Due.due("go 0", x.go(0), -1);
            Due.due("go -1", x.go(-1), -1);
            Due.due("go 61", x.go(61), -1);
            for (int far : FAR) {
                Due.due("go " + far, x.go(far), -1);
            }
            if (state < 2) {
                Due.due("it hasn't begun: go 1", x.go(1), -3);
                Due.due("it hasn't begun: go 60", x.go(60), -3);
                x.juror(1, YES, 0, -1);
            }
            if (state == 1) {
                x.juror(1, NO, 0, -1);
                x.begin();
            }
        }
        Due.due("refused, no turn was taken", x.talk(3), 0);
        Due.due("go 1", x.go(1), -4);
        Due.due("one turn", x.talk(3), 1);
        Due.due("go 60", x.go(60), -4);
        Due.due("sixty more", x.talk(3), 61);
    }

    private static void goNoFurtherThanTheEnd() {
        for (int line = -1; line <= 1; line += 2) {
            ElevenOne x = new ElevenOne();
            x.juror(30, 99 * line, 0, -1);
            x.juror(30, 99 * line, 0, -1);
            x.begin();
            Due.due("ended at first", x.go(60), line < 0 ? 1 : 0);
            Due.due("no turn", x.talk(3), 0);
            Due.due("no minute", x.talk(0), 0);
        }
    }

    private static void goStopsWithin() {
        ElevenOne x = new ElevenOne();
        Due.law(x, "m");
        x.juror(1, YES, 0, -1);
        x.juror(1, 5, 0, 0);
        x.begin();
        Due.due("four turns", x.go(4), -4);
        x.begin();
        Due.due("the fifth ends it", x.go(60), 1);
        Due.due("five turns", x.talk(3), 5);
        x.begin();
        x.go(4);
        Due.due("the fifth ends it", x.go(1), 1);
        Due.due("five turns", x.talk(3), 5);
    }

    /** Twelve, of whom the first ones say yes, or the last ones no. */
    private static ElevenOne twelve(int yes, int needed) {
        ElevenOne x = new ElevenOne();
        for (int j = 0; j < 12; j++) {
            x.juror(30, j < yes ? YES : NO, 0, -1);
        }
        x.set(0, needed);
        x.begin();
        return x;
    }

    private static void neededOrMore() {
        for (int needed = 1; needed <= 12; needed++) {
            for (int yes = 0; yes <= 12; yes++) {
                int want = yes >= needed ? 1 : 12 - yes >= needed ? 0 : -4;
                Due.due(yes + " yes, needed " + needed, twelve(yes, needed).talk(5), want);
            }
        }
    }

    private static void neededIsAllOfFewer() {
        for (int jurors = 1; jurors <= 12; jurors++) {
            ElevenOne yes = new ElevenOne();
            ElevenOne no = new ElevenOne();
            for (int j = 0; j < jurors; j++) {
                yes.juror(30, YES, 0, -1);
                no.juror(30, NO, 0, -1);
            }
            for (int needed = jurors; needed <= 12; needed++) {
                yes.set(0, needed);
                no.set(0, needed);
                Due.due("all, if there are fewer", yes.run(0), 1);
                Due.due("all, if there are fewer", no.run(0), 0);
                Due.due("all, no turn", yes.run(2), 0);
                Due.due("all, no turn", no.run(2), 0);
            }
            if (jurors < 12) {
                yes.set(0, 12);
                no.set(0, 12);
                yes.juror(30, NO, 0, -1);
                no.juror(30, YES, 0, -1);
                Due.due("all but one are not all", yes.run(0), 2);
                Due.due("all but one are not all", no.run(0), 2);
            }
        }
    }

    private static void yesIsAskedFirst() {
        for (int needed = 1; needed <= 6; needed++) {
            Due.due("both have as many as are needed: yes", twelve(6, needed).talk(5), 1);
        }
        Due.due("one yes, one needed", twelve(1, 1).talk(5), 1);
        Due.due("no yes, one needed", twelve(0, 1).talk(5), 0);
    }

    private static ElevenOne twoApart(int minutes, int others) {
        ElevenOne x = new ElevenOne();
        x.juror(minutes, YES, 0, -1);
        x.juror(others, NO, 0, -1);
        return x;
    }

    private static void limitToTheMinute() {
        for (int limit = 1; limit <= 65; limit++) {
            ElevenOne x = twoApart(10, 20);
            x.set(3, limit);
            // Turns end at minutes 10, 30, 40, 60, 70.
            int minute = limit <= 10 ? 10 : limit <= 30 ? 30 : limit <= 40 ? 40 : limit <= 60 ? 60 : 70;
            int turns = limit <= 10 ? 1 : limit <= 30 ? 2 : limit <= 40 ? 3 : limit <= 60 ? 4 : 5;
            Due.due("limit " + limit + ": minute", x.run(1), minute);
            Due.due("limit " + limit + ": turns", x.run(2), turns);
            Due.due("limit " + limit + ": hung", x.run(0), 2);
            x.begin();
            Due.due("limit " + limit + ": goes on till then", turns > 1 ? x.go(turns - 1) : x.talk(5), -4);
            Due.due("limit " + limit + ": hung then", x.go(1), 2);
            Due.due("limit " + limit + ": no turn begins any more", x.go(60), 2);
            Due.due("limit " + limit + ": the talk's minute", x.talk(0), minute);
            Due.due("limit " + limit + ": the talk's turns", x.talk(3), turns);
        }
    }

    private static void limitAtItsEnds() {
        ElevenOne x = twoApart(1, 1);
        Due.due("600 at first: turns", x.run(2), 600);
        x.set(3, 3000);
        Due.due("3000: turns", x.run(2), 3000);
        Due.due("3000: minute", x.run(1), 3000);
        Due.due("3000: hung", x.run(0), 2);
        x.begin();
        for (int i = 0; i < 49; i++) {
            Due.due("3000: goes on", x.go(60), -4);
        }
        Due.due("3000: goes on at 2999", x.go(59), -4);
        Due.due("3000: hung at 3000", x.go(60), 2);
        Due.due("3000: turns", x.talk(3), 3000);
        Due.due("3000: six", x.six(2, 1), 3000);
        x.set(3, 1);
        Due.due("1: turns", x.run(2), 1);
        x.set(3, 2);
        Due.due("2: turns", x.run(2), 2);
        x = twoApart(29, 30);
        x.set(3, 3000);
        // Fifty times 59 minutes, and 29, and 30.
        Due.due("the last turn ends behind the limit", x.run(1), 3009);
        Due.due("turns", x.run(2), 102);
    }

    private static void endsAheadOfHung() {
        for (int line = 29; line <= 31; line++) {
            ElevenOne x = new ElevenOne();
            Due.law(x, "m");
            Due.law(x, "0-m");
            x.juror(30, YES, 0, -1);
            x.juror(30, line, 0, 0);
            x.set(3, 30);
            Due.due("yes at the limit, line " + line, x.run(0), line <= 30 ? 1 : 2);
            x = new ElevenOne();
            Due.law(x, "0-m");
            x.juror(30, NO, 0, -1);
            x.juror(30, 1 - line, 0, 0);
            x.set(3, 30);
            Due.due("no at the limit, line " + (1 - line), x.run(0), line <= 30 ? 0 : 2);
        }
    }

    private static void turnsGoRound() {
        for (int jurors = 2; jurors <= 12; jurors++) {
            for (int leader = 0; leader < 12; leader++) {
                ElevenOne x = new ElevenOne();
                for (int j = 0; j < jurors; j++) {
                    x.juror(1 + j, j == 0 ? YES : NO, 0, -1);
                }
                x.set(1, leader);
                x.begin();
                int seat = leader < jurors ? leader : 0;
                int minute = 0;
                for (int i = 0; i < 2 * jurors + 1; i++) {
                    x.go(1);
                    minute += 1 + seat;
                    seat = seat + 1 < jurors ? seat + 1 : 0;
                    if (x.talk(0) != minute) {
                        Due.due("turn " + i + " of " + jurors + " from " + leader, x.talk(0), minute);
                    }
                }
            }
        }
    }

    private static void leaderOfTheTalk() {
        ElevenOne x = new ElevenOne();
        for (int j = 0; j < 4; j++) {
            x.juror(1 + j, j == 0 ? YES : NO, 0, -1);
        }
        x.set(1, 3);
        x.begin();
        x.set(1, 1);
        x.go(1);
        Due.due("of a talk as it begins: the first turn", x.talk(0), 4);
        x.set(1, 2);
        x.go(1);
        Due.due("of a talk as it begins: the second turn", x.talk(0), 5);
        Due.due("a run begins with the leader now", x.moved(0, 2), 0);
        x.begin();
        x.go(1);
        Due.due("the next talk's", x.talk(0), 3);
    }

    private static void minuteGrowsAheadOfSlips() {
        for (int minutes = 1; minutes <= 30; minutes++) {
            ElevenOne x = new ElevenOne();
            Due.law(x, "m");
            x.juror(minutes, YES, 0, -1);
            x.juror(1, minutes, 0, 0);
            x.juror(1, minutes + 1, 0, 0);
            x.begin();
            x.go(1);
            Due.due("the minute is " + minutes + " as slips are taken", x.of(1, 8), 1);
            Due.due("and not more", x.of(2, 8), 0);
        }
    }

    private static void slipsAreTakenTogether() {
        for (int way = 0; way < 2; way++) {
            ElevenOne x = new ElevenOne();
            Due.law(x, "m");
            Due.law(x, "y");
            for (int j = 0; j < 6; j++) {
                int at = way == 0 ? j : 5 - j;
                x.juror(1, at + 1, 0, at == 0 ? 0 : 1);
            }
            x.juror(1, YES, 0, -1);
            x.begin();
            for (int turn = 0; turn < 6; turn++) {
                Due.due("y, n those ahead of that for each: " + turn, x.talk(1), turn + 1);
                x.go(1);
            }
            Due.due("all in the end", x.talk(5), 1);
        }
    }

    // ---- the kinds of turns

    private static void plainAndSilentDoNothing() {
        for (int kind = 0; kind <= 6; kind += 6) {
            ElevenOne x = new ElevenOne();
            x.thing(20);
            x.juror(1000 * kind + 907, YES, 0, -1);
            x.juror(907, NO, 0, -1);
            x.holds(0, 1);
            x.begin();
            x.go(1);
            Due.due("does nothing but take its minutes", x.talk(0), 7);
            Due.due("does nothing", x.talk(4), 0);
            for (int j = 0; j < 2; j++) {
                Due.due("pushes nobody", x.of(j, 7), 0);
                Due.due("gives nothing", x.of(j, 6), 1 - j);
                Due.due("nobody gave in", x.of(j, 9), 0);
            }
        }
    }

    private static void thingThatThereIsNot() {
        int[] kinds = {1, 4};
        for (int kind : kinds) {
            ElevenOne x = new ElevenOne();
            x.thing(20);
            x.thing(20);
            x.juror(1000 * kind + 1, YES, 0, -1);
            x.juror(1, NO, 0, -1);
            x.holds(1, 2);
            x.begin();
            x.go(1);
            Due.due("of things that it holds: it holds none", x.talk(4), 0);
            x.holds(0, 2);
            x.begin();
            Due.due("all hold this one", x.talk(4), 2);
            x.go(1);
            Due.due("of those that not all hold: there is none", x.talk(4), 2);
            Due.due("nothing more is held", x.of(1, 6), 2);
            Due.due("its minutes pass", x.talk(0), 1);
        }
    }

    private static void thingThatSpeaksMost() {
        int[] speaks = {0, 5, -6, 6, 0, -20, 20, 1, -1, 19, -19, -20};
        int[] order = {5, 6, 11, 9, 10, 2, 3, 1, 7, 8, 0, 4};
        ElevenOne x = new ElevenOne();
        for (int s : speaks) {
            x.thing(s);
        }
        x.juror(1001, YES, 0, -1);
        x.juror(1, NO, 0, -1);
        x.juror(1, NO, 0, -1);
        x.holds(0, 4095);
        x.set(3, 3000);
        x.begin();
        int held = 0;
        for (int i = 0; i < 12; i++) {
            x.go(i == 0 ? 1 : 3);
            held |= 1 << order[i];
            Due.due("without sign, of several the least, 0 too: " + i, x.of(2, 6), held);
            Due.due("ahead of all: all hold it", x.talk(4), held);
            Due.due("out as its turn began", x.out(order[i]), 3 * i);
        }
        x.go(3);
        Due.due("then nothing", x.talk(4), 4095);
    }

    private static void storyLessThanFive() {
        for (int told = 0; told < 2; told++) {
            for (int far = -7; far <= 7; far++) {
                ElevenOne x = new ElevenOne();
                Due.law(x, "50+p");
                x.juror(4001, told == 0 ? 99 : -99, 0, -1);
                x.juror(1, 50 - far, 0, 0);
                x.juror(1, told == 0 ? -99 : 99, 0, -1);
                x.begin();
                x.go(1);
                int want = far > -5 && far < 5 ? (told == 0 ? -2 : 2) : 0;
                Due.due("less than 5 from its line: " + far, x.of(1, 7), want);
                Due.due("the teller is far", x.of(0, 7), 0);
            }
        }
        for (int line = -6; line <= 6; line++) {
            ElevenOne x = new ElevenOne();
            x.juror(4001, line, 0, -1);
            x.juror(1, line > 0 ? YES : NO, 0, -1);
            x.begin();
            x.go(1);
            int want = line <= -5 || line >= 5 ? 0 : line > 0 ? -2 : 2;
            Due.due("the teller too, at its line " + line, x.of(0, 7), want);
        }
    }

    private static void storyAsMinuteIsNow() {
        ElevenOne x = new ElevenOne();
        Due.law(x, "m");
        x.juror(4001, YES, 0, -1);
        x.juror(1, 5, 0, 0);
        x.juror(1, 4, 0, 0);
        x.juror(1, NO, 0, -1);
        x.begin();
        x.go(1);
        Due.due("5 from its line at minute 0", x.of(1, 7), 0);
        Due.due("4 from its line at minute 0", x.of(2, 7), 2);
        x.go(4);
        Due.due("at minute 4", x.of(1, 7), 2);
        Due.due("at minute 4", x.of(2, 7), 4);
        x.go(4);
        Due.due("4 above its line at minute 8", x.of(2, 7), 6);
        Due.due("3 above its line at minute 8", x.of(1, 7), 4);
        x.go(4);
        Due.due("8 above its line at minute 12", x.of(2, 7), 6);
        Due.due("7 above its line at minute 12", x.of(1, 7), 4);
    }

    private static void storyAsSlipsAreNow() {
        ElevenOne x = new ElevenOne();
        Due.law(x, "10*y+n");
        x.juror(4001, YES, 0, -1);
        // Two say yes and two no: all that lean so lean 22.
        x.juror(1, 27, 0, 0);
        x.juror(1, 26, 0, 0);
        x.juror(1, -99, 0, -1);
        x.begin();
        Due.due("leans", x.leans(1), 22);
        x.go(1);
        Due.due("5 from its line", x.of(1, 7), 0);
        Due.due("4 from its line", x.of(2, 7), 2);
    }

    private static void storyBehindItsThing() {
        ElevenOne x = new ElevenOne();
        x.thing(10);
        x.thing(4);
        x.juror(4001, 12, 0, -1);
        x.juror(1, 10, 0, -1);
        x.juror(1, 0, 0, -1);
        x.juror(1, YES, 0, -1);
        x.holds(0, 1);
        x.begin();
        Due.due("the teller says no", x.of(0, 8), 0);
        x.go(1);
        Due.due("its thing first: 1 is at its line", x.of(1, 7), -2);
        Due.due("its thing first: 2 is 10 from its line", x.of(2, 7), 0);
        Due.due("the teller is 2 from its line", x.of(0, 7), -2);
    }

    private static void storyBySlip() {
        ElevenOne x = new ElevenOne();
        Due.law(x, "y");
        x.juror(4001, 2, 0, 0);
        x.juror(1, YES, 0, -1);
        x.juror(1, YES, 0, -1);
        x.juror(1, 4, 0, -1);
        x.begin();
        Due.due("the teller leans yes now", x.leans(0), 2);
        Due.due("but its slip is no", x.of(0, 8), 0);
        x.go(1);
        Due.due("less, by its slip", x.of(3, 7), -2);
        Due.due("itself too", x.of(0, 7), -2);
    }

    private static int cut(int n, int by) {
        return n < 0 ? -(-n / by) : n / by;
    }

    private static ElevenOne counted(int kind, int yes) {
        ElevenOne x = new ElevenOne();
        for (int j = 0; j < 12; j++) {
            int heeds = j < 10 ? j : 9;
            x.juror((j == 0 ? 1000 * kind : 0) + 100 * heeds + 1, j >= 12 - yes ? YES : NO, 0, -1);
        }
        x.begin();
        x.go(1);
        return x;
    }

    private static void countCutTowardZero() {
        for (int yes = 1; yes < 12; yes++) {
            ElevenOne x = counted(2, yes);
            for (int j = 0; j < 12; j++) {
                int heeds = j < 10 ? j : 9;
                Due.due("count with " + yes + " yes, heeds " + heeds, x.of(j, 7), cut(heeds * (2 * yes - 12), 4));
            }
        }
    }

    private static void pressOnTheFewer() {
        for (int yes = 1; yes < 12; yes++) {
            ElevenOne x = counted(3, yes);
            for (int j = 0; j < 12; j++) {
                int heeds = j < 10 ? j : 9;
                boolean saysYes = j >= 12 - yes;
                int press = 0;
                if (yes > 6 && !saysYes) {
                    press = 2 * heeds;
                }
                if (yes < 6 && saysYes) {
                    press = -2 * heeds;
                }
                int want = cut(heeds * (2 * yes - 12), 4) + press;
                Due.due("press with " + yes + " yes, heeds " + heeds, x.of(j, 7), want);
            }
        }
    }

    private static void ruleCutTowardZero() {
        for (int side = -1; side <= 1; side += 2) {
            for (int heeds = 0; heeds <= 9; heeds++) {
                ElevenOne x = new ElevenOne();
                for (int j = 0; j < 12; j++) {
                    x.juror((j == 0 ? 5000 : 0) + 100 * heeds + 1, j == 11 ? 99 * side : -99 * side, 0, -1);
                }
                x.set(2, 1);
                x.begin();
                for (int j = 0; j < 12; j++) {
                    Due.due("pushed by hands", x.of(j, 7), side * j * heeds);
                }
                if (x.talk(5) == -4) {
                    x.go(1);
                    for (int j = 0; j < 12; j++) {
                        Due.due("halved, cut toward 0", x.of(j, 7), cut(side * j * heeds, 2));
                    }
                }
            }
        }
    }

    private static void patienceToTheMinute() {
        for (int patience = 0; patience <= 31; patience++) {
            ElevenOne x = new ElevenOne();
            x.juror(30, YES, 0, -1);
            x.juror(30, YES, 0, -1);
            x.juror(7001, NO, patience, -1);
            x.begin();
            x.go(3);
            Due.due("the minute 60 is " + patience + " or more", x.of(2, 9), 1);
            x.set(1, 1);
            x.begin();
            x.go(2);
            Due.due("the minute 30 is " + patience + " or more", x.of(2, 9), patience <= 30 ? 1 : 0);
            x.set(1, 2);
            x.begin();
            x.go(1);
            Due.due("the minute 0 is " + patience + " or more", x.of(2, 9), patience == 0 ? 1 : 0);
            Due.due("ends, as it gave in", x.talk(5), patience == 0 ? 1 : -4);
        }
        ElevenOne x = new ElevenOne();
        x.juror(1, YES, 0, -1);
        x.juror(1, NO, 0, -1);
        x.juror(7001, NO, 999, -1);
        x.set(1, 2);
        x.set(3, 3000);
        x.begin();
        for (int i = 0; i < 16; i++) {
            x.go(60);
        }
        x.go(39);
        Due.due("minute 999", x.talk(0), 999);
        Due.due("awake till now", x.of(2, 9), 0);
        x.go(1);
        Due.due("patience 999, at minute 999", x.of(2, 9), 1);
        x.set(3, 999);
        Due.due("a run hung at 999", x.moved(2, 2), 0);
        x.set(3, 1000);
        Due.due("a run hung at 1000", x.moved(2, 2), 1);
    }

    private static void givesInToMore() {
        for (int yes = 0; yes <= 11; yes++) {
            for (int own = 0; own < 2; own++) {
                int all = yes + own;
                if (all == 0 || all == 12) {
                    continue;
                }
                ElevenOne x = new ElevenOne();
                x.juror(7001, own == 1 ? YES : NO, 0, -1);
                for (int j = 0; j < 11; j++) {
                    x.juror(1, j < yes ? YES : NO, 0, -1);
                }
                x.begin();
                x.go(1);
                Due.due("gave in with " + all + " yes of 12", x.of(0, 9), 1);
                Due.due("says what more say (yes, if as many): " + all, x.of(0, 8), all >= 6 ? 1 : 0);
            }
        }
    }

    private static void givesInOnce() {
        ElevenOne x = new ElevenOne();
        Due.law(x, "m");
        x.juror(7001, YES, 0, -1);
        x.juror(1, 5, 0, 0);
        x.juror(1, 5, 0, 0);
        x.juror(1, NO, 0, -1);
        x.juror(1, YES, 0, -1);
        x.begin();
        Due.due("two say yes at first", x.talk(1), 2);
        x.go(1);
        Due.due("gave in to no", x.of(0, 8), 0);
        x.go(4);
        Due.due("more say yes", x.talk(1), 3);
        x.go(1);
        Due.due("it gave in already", x.of(0, 8), 0);
        x.go(5);
        Due.due("and once more", x.of(0, 8), 0);
    }

    private static void saysSoFromThenOn() {
        ElevenOne x = new ElevenOne();
        Due.law(x, "0-m");
        x.juror(7001, NO, 0, -1);
        x.juror(1, -1, 0, 0);
        x.juror(1, -1, 0, 0);
        x.juror(1, YES, 0, -1);
        x.begin();
        x.go(1);
        Due.due("gave in to yes", x.of(0, 8), 1);
        Due.due("leans as ever", x.leans(0), 0);
        Due.due("all say yes", x.talk(5), 1);
        x = new ElevenOne();
        Due.law(x, "0-m");
        x.juror(7001, NO, 0, -1);
        x.juror(1, -1, 0, 0);
        x.juror(1, -1, 0, 0);
        x.juror(1, NO, 0, -1);
        x.begin();
        x.go(1);
        Due.due("as many: yes", x.of(0, 8), 1);
        x.go(2);
        Due.due("the others turned to no", x.talk(2), 3);
        Due.due("it says yes from then on", x.of(0, 8), 1);
        x.go(60);
        Due.due("it says yes from then on", x.of(0, 8), 1);
        Due.due("minutes later", x.talk(1), 1);
    }

    // ---- promise 11

    private static void talkRefusals() {
        ElevenOne x = new ElevenOne();
        for (int state = 0; state < 3; state++) {
            Due.due("talk -1", x.talk(-1), -1);
            Due.due("talk 6", x.talk(6), -1);
            for (int far : FAR) {
                Due.due("talk " + far, x.talk(far), -1);
            }
            for (int what = 0; what < 6; what++) {
                Due.due("talk " + what + ", begun or not", x.talk(what) == -3 ? 1 : 0, state < 2 ? 1 : 0);
            }
            x.juror(1, NO, 0, -1);
            if (state == 1) {
                x.begin();
            }
        }
    }

    private static void talkAtItsEnds() {
        ElevenOne x = new ElevenOne();
        for (int i = 0; i < 12; i++) {
            x.thing(i);
        }
        for (int j = 0; j < 12; j++) {
            x.juror(30, YES, 0, -1);
            x.holds(j, 4095);
        }
        x.begin();
        int[] want = {0, 12, 0, 0, 4095, 1};
        for (int what = 0; what < 6; what++) {
            Due.due("talk of twelve who hold all: " + what, x.talk(what), want[what]);
        }
        x.holds(11, 2047);
        Due.due("as the talk began", x.talk(4), 4095);
        x.begin();
        Due.due("all but the last", x.talk(4), 2047);
        x.holds(5, 0);
        x.begin();
        Due.due("one holds none", x.talk(4), 0);
    }
}

/** The boundary cases that promises 1 to 8 and their terms name, a sentence at a time. */
public final class TellingEdgesTest {
    private static final int[] FAR = {Integer.MIN_VALUE, Integer.MIN_VALUE + 1, -1000000, 1000000, Integer.MAX_VALUE};

    public static void main(String[] args) {
        newHasNothing();
        newShelvesHoldNothing();
        newRule();
        speaks();
        thingsAreTwelve();
        thingInTalk();
        everyTold();
        lineAndPatience();
        lawOfJuror();
        jurorsAreTwelve();
        jurorEndsTalk();
        holdsThingsThatThereAre();
        holdsNoSuchJuror();
        holdsAsTold();
        ofRefusals();
        ofInAndOutOfTalk();
        leansRefusals();
        leansWithoutTalk();
        leansInTalk();
        lawRefusalsInOrder();
        everyFirstByte();
        everySecondByte();
        everyByteInBrackets();
        numbers();
        depth();
        longest();
        faultInTheMiddle();
        sumsAndProducts();
        division();
        greater();
        wrapAround();
        lawsAreSix();
        setRanges();
        setWhatever();
        Due.finish();
    }

    // ---- promise 1

    private static void newHasNothing() {
        ElevenOne x = new ElevenOne();
        for (int what = 0; what < 5; what++) {
            Due.due("new: count " + what, x.count(what), 0);
        }
        Due.due("new: no thing 0", x.out(0), -1);
        Due.due("new: no juror 0", x.of(0, 0), Due.MISSING);
        Due.due("new: no juror holds", x.holds(0, 0), -1);
        Due.due("new: no juror leans", x.leans(0), Due.MISSING);
        Due.due("new: no law 0", x.juror(1, 0, 0, 0), -1);
        Due.due("new: no image", x.restore(), -3);
        Due.due("new: begin", x.begin(), -3);
        Due.due("new: go", x.go(1), -3);
        Due.due("new: talk", x.talk(0), -3);
        Due.due("new: one", x.one(), 0);
    }

    private static void newShelvesHoldNothing() {
        ElevenOne x = new ElevenOne();
        for (int d = 0; d < 8; d++) {
            Due.due("new: voice of shelf " + d, x.voice(d), -11);
            Due.due("new: put on shelf " + d, x.put(d, 0, 0), -11);
            Due.due("new: law of shelf " + d, x.law(d), -11);
            Due.due("new: toss of shelf " + d, x.toss(d), -11);
            Due.same("new: element of shelf " + d, Due.element(x, d, 0), "IllegalStateException");
        }
    }

    private static void newRule() {
        ElevenOne x = new ElevenOne();
        int[] first = {12, 0, 0, 600};
        for (int what = 0; what < 4; what++) {
            Due.due("at first: rule " + what, x.set(what, 1), first[what]);
        }
    }

    // ---- promise 2

    private static void speaks() {
        ElevenOne x = new ElevenOne();
        int number = 0;
        for (int speaks = -23; speaks <= 23; speaks++) {
            boolean fits = speaks >= -20 && speaks <= 20;
            if (number == 12) {
                x = new ElevenOne();
                number = 0;
            }
            int before = x.count(3);
            Due.due("thing " + speaks, x.thing(speaks), fits ? number : -1);
            Due.due("spoken with " + speaks, x.count(3), fits ? before + speaks : before);
            number += fits ? 1 : 0;
        }
        for (int far : FAR) {
            Due.due("thing " + far, x.thing(far), -1);
        }
        Due.due("refused things change nothing", x.count(0), number);
    }

    private static void thingsAreTwelve() {
        ElevenOne x = new ElevenOne();
        for (int i = 0; i < 12; i++) {
            Due.due("things as they come", x.thing(1), i);
        }
        Due.due("no room for a thirteenth", x.thing(1), -2);
        Due.due("no room, and out of range: the first", x.thing(21), -1);
        Due.due("no room, and out of range: the first", x.thing(-21), -1);
        Due.due("twelve still", x.count(0), 12);
        Due.due("they speak 12 still", x.count(3), 12);
    }

    private static void thingInTalk() {
        ElevenOne x = new ElevenOne();
        x.thing(3);
        x.juror(1001, 3, 0, -1);
        x.juror(1, 99, 0, -1);
        x.holds(0, 1);
        x.begin();
        x.go(1);
        Due.due("a thing in a talk", x.thing(20), 1);
        Due.due("the talk goes on", x.talk(3), 1);
        Due.due("nobody holds the new thing", x.talk(4), 1);
        Due.due("told to be held, it is for the next talk", x.holds(0, 3), 1);
        x.go(1);
        x.go(1);
        Due.due("not for this one", x.talk(4), 1);
        x.begin();
        x.go(1);
        Due.due("the next talk's", x.talk(4), 2);
    }

    // ---- promise 3

    private static void everyTold() {
        for (int told = -9000; told <= 9000; told++) {
            ElevenOne x = new ElevenOne();
            boolean fits = told >= 0 && told < 8000 && told % 100 >= 1 && told % 100 <= 30;
            int got = x.juror(told, 0, 0, -1);
            if (got != (fits ? 0 : -1)) {
                Due.due("juror told " + told, got, fits ? 0 : -1);
            }
            long want = fits ? told : -1;
            long as = fits ? 1000L * x.of(0, 0) + 100L * x.of(0, 1) + x.of(0, 2) : -1;
            if (as != want || x.count(1) != (fits ? 1 : 0)) {
                Due.due("juror is as told " + told, as, want);
            }
        }
        for (int far : FAR) {
            Due.due("juror told " + far, new ElevenOne().juror(far, 0, 0, -1), -1);
        }
    }

    private static void lineAndPatience() {
        int[] lines = {-100, -99, -98, 0, 98, 99, 100};
        for (int line : lines) {
            ElevenOne x = new ElevenOne();
            boolean fits = line >= -99 && line <= 99;
            Due.due("line " + line, x.juror(1, line, 0, -1), fits ? 0 : -1);
            Due.due("of line " + line, x.of(0, 3), fits ? line : Due.MISSING);
        }
        int[] patiences = {-1, 0, 1, 998, 999, 1000};
        for (int patience : patiences) {
            ElevenOne x = new ElevenOne();
            boolean fits = patience >= 0 && patience <= 999;
            Due.due("patience " + patience, x.juror(1, 0, patience, -1), fits ? 0 : -1);
            Due.due("of patience " + patience, x.of(0, 4), fits ? patience : Due.MISSING);
        }
        for (int far : FAR) {
            ElevenOne x = new ElevenOne();
            Due.due("line " + far, x.juror(1, far, 0, -1), -1);
            Due.due("patience " + far, x.juror(1, 0, far, -1), -1);
            Due.due("law " + far, x.juror(1, 0, 0, far), -1);
        }
    }

    private static void lawOfJuror() {
        ElevenOne x = new ElevenOne();
        for (int laws = 0; laws < 7; laws++) {
            x = new ElevenOne();
            for (int i = 0; i < laws && i < 6; i++) {
                Due.law(x, "" + (i + 1));
            }
            int there = laws > 6 ? 6 : laws;
            Due.due("law -2 of " + laws, x.juror(1, 0, 0, -2), -1);
            Due.due("the law behind the last of " + laws, x.juror(1, 0, 0, there), -1);
            Due.due("law -1 of " + laws, x.juror(1, 0, 0, -1), 0);
            Due.due("of law -1", x.of(0, 5), -1);
            for (int i = 0; i < there; i++) {
                Due.due("law " + i, x.juror(1, 0, 0, i), i + 1);
                Due.due("of law " + i, x.of(i + 1, 5), i);
                Due.due("leans by law " + i, x.leans(i + 1), i + 1);
            }
        }
    }

    private static void jurorsAreTwelve() {
        ElevenOne x = new ElevenOne();
        for (int i = 0; i < 12; i++) {
            Due.due("jurors as they come", x.juror(1 + i, 0, 0, -1), i);
        }
        x.begin();
        Due.due("no room for a thirteenth", x.juror(1, 0, 0, -1), -2);
        int[][] wrong = {{0, 0, 0, -1}, {31, 0, 0, -1}, {8001, 0, 0, -1}, {1, 100, 0, -1}, {1, -100, 0, -1},
            {1, 0, -1, -1}, {1, 0, 1000, -1}, {1, 0, 0, 0}, {1, 0, 0, -2}};
        for (int[] w : wrong) {
            Due.due("no room, and wrong: the first", x.juror(w[0], w[1], w[2], w[3]), -1);
        }
        Due.due("twelve still", x.count(1), 12);
        Due.due("the talk still", x.talk(1), 12);
        Due.due("the last as it was", x.of(11, 2), 12);
    }

    private static void jurorEndsTalk() {
        ElevenOne x = new ElevenOne();
        x.thing(9);
        Due.due("law", Due.law(x, "t+p+100*(y+n+m)"), 0);
        x.juror(1901, -9, 0, 0);
        x.juror(2901, -99, 0, -1);
        x.juror(7901, 99, 0, -1);
        x.holds(0, 1);
        x.begin();
        x.go(3);
        Due.due("held in the talk", x.of(2, 6), 1);
        Due.due("gave in", x.of(2, 9), 1);
        Due.due("a wrong juror leaves the talk", x.juror(0, 0, 0, -1), -1);
        Due.due("the talk is there", x.talk(3), 3);
        Due.due("a juror", x.juror(1, 0, 0, -1), 3);
        Due.due("a talk has not begun then: talk", x.talk(0), -3);
        Due.due("a talk has not begun then: go", x.go(1), -3);
        Due.due("a talk has not begun then: held", x.of(2, 6), 0);
        Due.due("a talk has not begun then: pushed", x.of(2, 7), 0);
        Due.due("a talk has not begun then: slip", x.of(1, 8), 0);
        Due.due("a talk has not begun then: gave in", x.of(2, 9), 0);
        Due.due("a talk has not begun then: leans", x.leans(0), 9);
        Due.due("none held at first", x.of(3, 6), 0);
    }

    // ---- promise 4

    private static void holdsThingsThatThereAre() {
        ElevenOne x = new ElevenOne();
        x.juror(1, 0, 0, -1);
        for (int things = 0; things <= 12; things++) {
            int all = (1 << things) - 1;
            Due.due("all of " + things, x.holds(0, all), 0);
            Due.due("one more than there are of " + things, x.holds(0, all + 1), -1);
            Due.due("one that isn't there and all of " + things, x.holds(0, 2 * all + 1), -1);
            Due.due("below 0 with " + things, x.holds(0, -1), -1);
            Due.due("lowest with " + things, x.holds(0, Integer.MIN_VALUE), -1);
            Due.due("lowest and all of " + things, x.holds(0, Integer.MIN_VALUE | all), -1);
            Due.due("highest with " + things, x.holds(0, Integer.MAX_VALUE), -1);
            Due.due("refused, all of " + things + " still, and now none", x.holds(0, 0), all);
            x.thing(1);
        }
    }

    private static void holdsNoSuchJuror() {
        ElevenOne x = new ElevenOne();
        x.thing(1);
        for (int jurors = 0; jurors <= 12; jurors++) {
            Due.due("no juror " + jurors, x.holds(jurors, 1), -1);
            Due.due("no juror -1", x.holds(-1, 1), -1);
            x.juror(1, 0, 0, -1);
        }
        Due.due("no juror 12", x.holds(12, 1), -1);
        for (int far : FAR) {
            Due.due("no juror " + far, x.holds(far, 1), -1);
        }
        Due.due("nobody holds it", x.one(), 0);
        Due.due("the last juror", x.holds(11, 1), 0);
        Due.due("one holds it", x.one(), 1);
    }

    private static void holdsAsTold() {
        ElevenOne x = new ElevenOne();
        x.thing(1);
        x.thing(2);
        x.juror(1001, 99, 0, -1);
        x.juror(1, -99, 0, -1);
        x.holds(0, 3);
        x.begin();
        x.go(1);
        Due.due("held in the talk", x.of(1, 6), 2);
        Due.due("what it held as told", x.holds(1, 1), 0);
        Due.due("the talk as it was", x.of(1, 6), 2);
        x.begin();
        Due.due("the talk for that alone: each begins as told", x.of(1, 6), 1);
    }

    // ---- promise 5

    private static void ofRefusals() {
        ElevenOne x = new ElevenOne();
        Due.due("of nobody", x.of(0, 0), Due.MISSING);
        x.juror(1, 0, 0, -1);
        for (int what = -2; what <= 12; what++) {
            boolean there = what >= 0 && what <= 9;
            Due.due("of what " + what, x.of(0, what) == Due.MISSING ? 1 : 0, there ? 0 : 1);
            Due.due("of juror 1, what " + what, x.of(1, what), Due.MISSING);
            Due.due("of juror -1, what " + what, x.of(-1, what), Due.MISSING);
        }
        for (int far : FAR) {
            Due.due("of what " + far, x.of(0, far), Due.MISSING);
            Due.due("of juror " + far, x.of(far, 0), Due.MISSING);
        }
    }

    private static void ofInAndOutOfTalk() {
        ElevenOne x = new ElevenOne();
        x.thing(5);
        x.juror(1901, -99, 0, -1);
        x.juror(2901, 99, 7, -1);
        x.juror(901, 99, 0, -1);
        x.holds(0, 1);
        int[] without = {1, 0, 0, 0};
        for (int what = 6; what < 10; what++) {
            Due.due("without a talk: of 0 " + what, x.of(0, what), without[what - 6]);
        }
        x.begin();
        Due.due("in the talk: a slip", x.of(0, 8), 1);
        Due.due("in the talk: a slip", x.of(1, 8), 0);
        x.go(2);
        // yes less no is -1: 9 times -1 by 4 is -2
        int[] of1 = {2, 9, 1, 99, 7, -1, 1, -2, 0, 0};
        for (int what = 0; what < 10; what++) {
            Due.due("in the talk: of 1 " + what, x.of(1, what), of1[what]);
        }
        x.set(0, 1);
        Due.due("a talk that ended is one still", x.talk(5), 1);
        Due.due("in a talk that ended", x.of(2, 7), -2);
        Due.due("in a talk that ended", x.of(0, 8), 1);
    }

    // ---- promise 6

    private static void leansRefusals() {
        ElevenOne x = new ElevenOne();
        Due.due("leans: nobody", x.leans(0), Due.MISSING);
        x.juror(1, 0, 0, -1);
        Due.due("leans: juror 1", x.leans(1), Due.MISSING);
        Due.due("leans: juror -1", x.leans(-1), Due.MISSING);
        for (int far : FAR) {
            Due.due("leans: juror " + far, x.leans(far), Due.MISSING);
        }
        for (int i = 1; i < 12; i++) {
            x.juror(1, 0, 0, -1);
        }
        Due.due("leans: juror 11", x.leans(11), 0);
        Due.due("leans: juror 12", x.leans(12), Due.MISSING);
    }

    private static void leansWithoutTalk() {
        ElevenOne x = new ElevenOne();
        for (int i = 0; i < 12; i++) {
            x.thing(-20);
        }
        Due.law(x, "p+y+n+m");
        x.juror(1, 0, 0, -1);
        x.juror(1, -99, 0, 0);
        Due.due("holds none", x.leans(0), 0);
        x.holds(0, 4095);
        Due.due("holds all", x.leans(0), -240);
        x.holds(0, 2048);
        Due.due("holds the last", x.leans(0), -20);
        Due.due("the others 0", x.leans(1), 0);
    }

    private static void leansInTalk() {
        ElevenOne x = new ElevenOne();
        Due.law(x, "p");
        Due.law(x, "y");
        Due.law(x, "n");
        Due.law(x, "m");
        x.juror(2430, 0, 0, 0);
        x.juror(1, 99, 0, 1);
        x.juror(1, 99, 0, 2);
        x.juror(1, 99, 0, 3);
        x.juror(7001, 99, 0, -1);
        x.begin();
        int[] first = {0, 1, 4, 0, 0};
        int[] later = {-3, 1, 4, 30, 0};
        for (int j = 0; j < 5; j++) {
            Due.due("leans by slips as they are " + j, x.leans(j), first[j]);
        }
        x.go(1);
        // Behind the count all say no but nobody: the slip of 0 is no now, and y, n are those now.
        later[1] = 0;
        later[2] = 5;
        for (int j = 0; j < 5; j++) {
            Due.due("leans behind a turn " + j, x.leans(j), later[j]);
        }
        Due.due("all say no", x.talk(5), 0);
    }

    // ---- promise 7

    private static void lawRefusalsInOrder() {
        ElevenOne x = new ElevenOne();
        x.juror(1, 0, 0, -1);
        x.keep(1, 1, 0);
        for (int d = -2; d < 10; d++) {
            boolean there = d >= 0 && d < 8;
            Due.due("law from shelf " + d, x.law(d), !there ? -1 : d == 1 ? -12 : -11);
        }
        for (int far : FAR) {
            Due.due("law from shelf " + far, x.law(far), -1);
        }
        x.row(2, 1, 1);
        x.put(2, 0, 't');
        x.row(3, 2, 1);
        x.put(3, 0, 't');
        x.row(4, 2, 0);
        x.row(5, 0, 0);
        Due.due("a row of shorts", x.law(2), -12);
        Due.due("a row of ints", x.law(3), -12);
        Due.due("an empty row of ints: another kind ahead of a fault", x.law(4), -12);
        Due.due("an empty row of bytes", x.law(5), -100);
        Due.due("no law was told", x.count(2), 0);
        for (int i = 0; i < 6; i++) {
            Due.due("laws as they come", Due.law(x, "t"), i);
        }
        Due.due("no room, but no such shelf ahead of that", x.law(8), -1);
        Due.due("no room, but no such shelf ahead of that", x.law(-1), -1);
        Due.due("no room ahead of nothing held", x.law(0), -2);
        Due.due("no room ahead of another kind", x.law(1), -2);
        Due.due("no room ahead of another sort", x.law(3), -2);
        Due.due("no room ahead of a fault", x.law(5), -2);
        Due.due("no room for a seventh", x.law(7), -2);
        Due.due("six still", x.count(2), 6);
    }

    private static int lawAlone(String text) {
        return Due.law(new ElevenOne(), text);
    }

    private static boolean isAmong(int b, String signs) {
        return signs.indexOf(b) >= 0;
    }

    private static void everyFirstByte() {
        for (int b = 0; b < 256; b++) {
            int want = isAmong(b, "0123456789tpynm") ? 0 : isAmong(b, "([") ? -101 : -100;
            Due.due("a law of the byte " + b, lawAlone("" + (char) b), want);
        }
    }

    private static void everySecondByte() {
        for (int b = 0; b < 256; b++) {
            boolean mark = isAmong(b, "+-*/");
            boolean digit = isAmong(b, "0123456789");
            for (char atom : "tpynm".toCharArray()) {
                Due.due(atom + " and the byte " + b, lawAlone("" + atom + (char) b), mark ? -102 : -101);
            }
            Due.due("0 and the byte " + b, lawAlone("0" + (char) b), mark ? -102 : -101);
            Due.due("7 and the byte " + b, lawAlone("7" + (char) b), digit ? 0 : mark ? -102 : -101);
            Due.due("70 and the byte " + b, lawAlone("70" + (char) b), digit ? 0 : mark ? -103 : -102);
            Due.due("700 and the byte " + b, lawAlone("700" + (char) b), mark ? -104 : -103);
            boolean atom = isAmong(b, "0123456789tpynm");
            for (char before : "+-*/".toCharArray()) {
                Due.due(before + " and the byte " + b, lawAlone("t" + before + (char) b),
                    atom ? 0 : isAmong(b, "([") ? -103 : -102);
            }
        }
    }

    private static void everyByteInBrackets() {
        for (int b = 0; b < 256; b++) {
            char c = (char) b;
            boolean mark = isAmong(b, "+-*/");
            Due.due("( and " + b, lawAlone("(" + c), isAmong(b, "0123456789tpynm([") ? -102 : -101);
            Due.due("[ and " + b, lawAlone("[" + c), isAmong(b, "0123456789tpynm([") ? -102 : -101);
            Due.due("(t and " + b, lawAlone("(t" + c), c == ')' ? 0 : mark ? -103 : -102);
            Due.due("[t and " + b, lawAlone("[t" + c), c == ',' || mark ? -103 : -102);
            Due.due("[t, and " + b, lawAlone("[t," + c), isAmong(b, "0123456789tpynm([") ? -104 : -103);
            Due.due("[t,t and " + b, lawAlone("[t,t" + c), c == ']' ? 0 : mark ? -105 : -104);
            Due.due("(t) and " + b, lawAlone("(t)" + c), mark ? -104 : -103);
            Due.due("[t,t] and " + b, lawAlone("[t,t]" + c), mark ? -106 : -105);
        }
    }

    private static int valueOf(String law) {
        ElevenOne x = new ElevenOne();
        Due.due("law " + law, Due.law(x, law), 0);
        x.juror(1, 0, 0, 0);
        return x.leans(0);
    }

    private static void numbers() {
        for (int n = 0; n < 1000; n++) {
            int got = valueOf("" + n);
            if (got != n) {
                Due.due("the number " + n, got, n);
            }
        }
        Due.due("0 ahead of another", lawAlone("01"), -101);
        Due.due("0 ahead of another", lawAlone("00"), -101);
        Due.due("0 ahead of others", lawAlone("012"), -101);
        Due.due("0 ahead of others behind a mark", lawAlone("t*05"), -103);
        Due.due("four digits", lawAlone("1000"), -103);
        Due.due("four digits behind a mark", lawAlone("9-9999"), -105);
    }

    private static String times(String sign, int n) {
        StringBuilder b = new StringBuilder();
        for (int i = 0; i < n; i++) {
            b.append(sign);
        }
        return b.toString();
    }

    private static void depth() {
        for (int deep = 0; deep < 12; deep++) {
            boolean fits = deep <= 6;
            Due.due("( " + deep + " deep", lawAlone(times("(", deep) + "t" + times(")", deep)), fits ? 0 : -106);
            Due.due("[ " + deep + " deep", lawAlone(times("[", deep) + "t" + times(",t]", deep)), fits ? 0 : -106);
            Due.due("[ " + deep + " deep behind commas", lawAlone(times("[t,", deep) + "t" + times("]", deep)),
                fits ? 0 : -118);
            Due.due("( alone, " + deep, lawAlone(times("(", deep)), fits ? -100 - deep : -106);
        }
        Due.due("( and [ together 6 deep, one of [ without an end", lawAlone("([([([t,p])])])"), -111);
        Due.due("( and [ together 6 deep", lawAlone("([([([t,p]),p]),p])"), 0);
        Due.due("( and [ together 7 deep", lawAlone("([([([(t),p]),p]),p])"), -106);
        Due.due("[ and ( together 7 deep", lawAlone("[([([([t,p]),p]),p]),p]"), -106);
        Due.due("6 deep, out and 6 deep again", lawAlone("((((((t))))))*((((((t))))))"), 0);
        Due.due("6 deep, out and 7 deep", lawAlone("((((((t))))))*(((((((t"), -120);
        Due.due("6 deep in both of a pair", lawAlone("[(((((t))))),(((((t)))))]"), 0);
        Due.due("7 deep in the other of a pair", lawAlone("[(((((t))))),((((((t))))))]"), -118);
    }

    private static void longest() {
        Due.due("100 bytes", lawAlone(times("t+", 49) + "12"), 0);
        Due.due("100 bytes, ending too early", lawAlone(times("t+", 50)), -200);
        Due.due("100 bytes, the last with which no law can go on", lawAlone(times("t+", 49) + "t)"), -199);
        Due.due("99 bytes and a 0 behind", lawAlone(times("t+", 49) + "t" + (char) 0), -199);
        Due.due("100 bytes", valueOf(times("1+", 49) + "12"), 61);
    }

    private static void faultInTheMiddle() {
        Due.due("a blank", lawAlone("t +p"), -101);
        Due.due("two marks", lawAlone("t+-p"), -102);
        Due.due("the first of several", lawAlone("t+)("), -102);
        Due.due("a sign of its own ahead", lawAlone("-1"), -100);
        Due.due("[ with one", lawAlone("[t]+p"), -102);
        Due.due("[ with three", lawAlone("[t,p,y]"), -104);
        Due.due("( with two", lawAlone("(t,p)"), -102);
        Due.due("( closed as [", lawAlone("(t]"), -102);
        Due.due("[ closed as (", lawAlone("[t,p)"), -104);
        Due.due("one ) too many", lawAlone("(t))"), -103);
        Due.due("one ) too few", lawAlone("((t)"), -104);
        Due.due("large letters", lawAlone("T"), -100);
        Due.due("two atoms", lawAlone("tp"), -101);
        Due.due("an atom and a bracket", lawAlone("t(p)"), -101);
        Due.due("a bracket and an atom", lawAlone("(p)t"), -103);
        Due.due("two brackets", lawAlone("(p)(t)"), -103);
    }

    private static void sumsAndProducts() {
        Due.due("from the left: 9-4-3", valueOf("9-4-3"), 2);
        Due.due("from the left: 9-4+3", valueOf("9-4+3"), 8);
        Due.due("from the left: 9/4*4", valueOf("9/4*4"), 8);
        Due.due("from the left: 9*4/5", valueOf("9*4/5"), 7);
        Due.due("from the left: 99/5/4", valueOf("99/5/4"), 4);
        Due.due("products ahead of sums", valueOf("2+3*4-8/4"), 12);
        Due.due("brackets ahead of all", valueOf("(2+3)*(4-8)/4"), -5);
    }

    private static void division() {
        Due.due("7/2", valueOf("7/2"), 3);
        Due.due("-7/2 cut toward 0", valueOf("(0-7)/2"), -3);
        Due.due("7/-2 cut toward 0", valueOf("7/(0-2)"), -3);
        Due.due("-7/-2 cut toward 0", valueOf("(0-7)/(0-2)"), 3);
        Due.due("1/2", valueOf("1/2"), 0);
        Due.due("-1/2", valueOf("(0-1)/2"), 0);
        Due.due("by 0: 0", valueOf("7/0"), 0);
        Due.due("-7 by 0: 0", valueOf("(0-7)/0"), 0);
        Due.due("0 by 0: 0", valueOf("0/0"), 0);
        Due.due("by 0, and on", valueOf("7/0+5"), 5);
        Due.due("by 0, and on", valueOf("7/(3-3)*5"), 0);
        Due.due("by p, that is 0", valueOf("5/p"), 0);
    }

    private static void greater() {
        Due.due("[3,4]", valueOf("[3,4]"), 4);
        Due.due("[4,3]", valueOf("[4,3]"), 4);
        Due.due("[4,4]", valueOf("[4,4]"), 4);
        Due.due("[-4,-3]", valueOf("[0-4,0-3]"), -3);
        Due.due("[-4,3]", valueOf("[0-4,3]"), 3);
        Due.due("the greater of the ends", valueOf("[" + LEAST + "," + LEAST + "-1]"), Integer.MAX_VALUE);
    }

    private static final String LEAST = "(0-512)*512*512*16";

    private static void wrapAround() {
        Due.due("the least", valueOf(LEAST), Integer.MIN_VALUE);
        Due.due("one less than the least", valueOf(LEAST + "-1"), Integer.MAX_VALUE);
        Due.due("one more than the most", valueOf("512*512*512*16-1+1"), Integer.MIN_VALUE);
        Due.due("0 less the least", valueOf("0-(" + LEAST + ")"), Integer.MIN_VALUE);
        Due.due("the least by -1", valueOf(LEAST + "/(0-1)"), Integer.MIN_VALUE);
        Due.due("the least times -1", valueOf(LEAST + "*(0-1)"), Integer.MIN_VALUE);
        Due.due("the least by 2", valueOf(LEAST + "/2"), Integer.MIN_VALUE / 2);
        Due.due("a product", valueOf("999*999*999*999"), 999 * 999 * 999 * 999);
        Due.due("a product that is 0", valueOf("512*512*512*32"), 0);
    }

    private static void lawsAreSix() {
        ElevenOne x = new ElevenOne();
        for (int i = 0; i < 6; i++) {
            Due.due("a fault takes no number", Due.law(x, "t+"), -102);
            Due.due("laws", x.count(2), i);
            Due.due("law " + i, Due.law(x, "" + (10 + i)), i);
        }
        Due.due("a seventh", Due.law(x, "99"), -2);
        x.row(7, 0, 0);
        for (int i = 0; i < 6; i++) {
            x.juror(1, 0, 0, i);
            Due.due("told laws stay as they were read", x.leans(i), 10 + i);
        }
    }

    // ---- promise 8

    private static void setRanges() {
        int[] least = {1, 0, 0, 1};
        int[] most = {12, 11, 1, 3000};
        int[] first = {12, 0, 0, 600};
        for (int what = 0; what < 4; what++) {
            ElevenOne x = new ElevenOne();
            int was = first[what];
            for (int n = -2; n <= 3003; n++) {
                boolean fits = n >= least[what] && n <= most[what];
                int got = x.set(what, n);
                if (got != (fits ? was : -1)) {
                    Due.due("set " + what + " to " + n, got, fits ? was : -1);
                }
                was = fits ? n : was;
            }
            for (int far : FAR) {
                Due.due("set " + what + " to " + far, x.set(what, far), -1);
            }
            Due.due("refused, it is as it was", x.set(what, 1), most[what]);
        }
    }

    private static void setWhatever() {
        ElevenOne x = new ElevenOne();
        for (int n = 0; n < 13; n++) {
            Due.due("set -1", x.set(-1, n), -1);
            Due.due("set 4", x.set(4, n), -1);
        }
        for (int far : FAR) {
            Due.due("set " + far, x.set(far, 1), -1);
        }
        newRuleOf(x);
    }

    private static void newRuleOf(ElevenOne x) {
        int[] first = {12, 0, 0, 600};
        for (int what = 0; what < 4; what++) {
            Due.due("nothing was set: " + what, x.set(what, 1), first[what]);
        }
    }
}

/** Promises 1 to 8: a new object, things, jurors, laws, the rule. */
public final class ThingsTest {
    public static void main(String[] args) {
        newObject();
        things();
        jurors();
        holdings();
        laws();
        lawFaults();
        lawValues();
        lawRefusals();
        rule();
        Due.finish();
    }

    private static void newObject() {
        ElevenOne x = new ElevenOne();
        Due.due("new count 0", x.count(0), 0);
        Due.due("new count 1", x.count(1), 0);
        Due.due("new count 2", x.count(2), 0);
        Due.due("new count 3", x.count(3), 0);
        Due.due("new count 4", x.count(4), 0);
        Due.due("new one", x.one(), 0);
        Due.due("new begin", x.begin(), -3);
        Due.due("new restore", x.restore(), -3);
        Due.due("new shelf", x.voice(0), -11);
        Due.due("new needed", x.set(0, 12), 12);
        Due.due("new leader", x.set(1, 0), 0);
        Due.due("new hands", x.set(2, 0), 0);
        Due.due("new limit", x.set(3, 600), 600);
    }

    private static void things() {
        ElevenOne x = new ElevenOne();
        Due.due("thing -21", x.thing(-21), -1);
        Due.due("thing 21", x.thing(21), -1);
        Due.due("thing min", x.thing(Integer.MIN_VALUE), -1);
        Due.due("thing -20", x.thing(-20), 0);
        Due.due("thing 20", x.thing(20), 1);
        Due.due("thing 0", x.thing(0), 2);
        for (int i = 3; i < 12; i++) {
            Due.due("thing", x.thing(-i), i);
        }
        Due.due("a thirteenth thing", x.thing(1), -2);
        Due.due("a thirteenth thing, out of range", x.thing(99), -1);
        Due.due("things", x.count(0), 12);
        Due.due("spoken together", x.count(3), -63);
    }

    private static void jurors() {
        ElevenOne x = new ElevenOne();
        Due.due("minutes 0", x.juror(100, 0, 0, -1), -1);
        Due.due("minutes 31", x.juror(131, 0, 0, -1), -1);
        Due.due("minutes 99", x.juror(199, 0, 0, -1), -1);
        Due.due("told below 0", x.juror(-1, 0, 0, -1), -1);
        Due.due("told lowest", x.juror(Integer.MIN_VALUE, 0, 0, -1), -1);
        Due.due("kind 8", x.juror(8001, 0, 0, -1), -1);
        Due.due("line -100", x.juror(1, -100, 0, -1), -1);
        Due.due("line 100", x.juror(1, 100, 0, -1), -1);
        Due.due("patience -1", x.juror(1, 0, -1, -1), -1);
        Due.due("patience 1000", x.juror(1, 0, 1000, -1), -1);
        Due.due("law -2", x.juror(1, 0, 0, -2), -1);
        Due.due("law untold", x.juror(1, 0, 0, 0), -1);
        Due.due("a law", Due.law(x, "7"), 0);
        Due.due("juror 0", x.juror(7930, -99, 999, 0), 0);
        int[] want = {7, 9, 30, -99, 999, 0, 0, 0, 0, 0};
        for (int what = 0; what < want.length; what++) {
            Due.due("of 0 " + what, x.of(0, what), want[what]);
        }
        Due.due("of 0 10", x.of(0, 10), Due.MISSING);
        Due.due("of 0 -1", x.of(0, -1), Due.MISSING);
        Due.due("of 1 0", x.of(1, 0), Due.MISSING);
        Due.due("of -1 0", x.of(-1, 0), Due.MISSING);
        Due.due("leans 0", x.leans(0), 7);
        Due.due("leans 1", x.leans(1), Due.MISSING);
        Due.due("leans -1", x.leans(-1), Due.MISSING);
        Due.due("begin", x.begin(), 1);
        Due.due("a refused juror", x.juror(0, 0, 0, -1), -1);
        Due.due("leaves the talk", x.talk(0), 0);
        Due.due("juror 1", x.juror(1, 99, 0, -1), 1);
        Due.due("ends the talk", x.talk(0), -3);
        for (int i = 2; i < 12; i++) {
            Due.due("juror", x.juror(1, 0, 0, -1), i);
        }
        Due.due("begin with 12", x.begin(), 11);
        Due.due("a thirteenth juror", x.juror(1, 0, 0, -1), -2);
        Due.due("a thirteenth juror, wrong", x.juror(0, 0, 0, -1), -1);
        Due.due("leaves the talk of 12", x.talk(1), 11);
    }

    private static void holdings() {
        ElevenOne x = new ElevenOne();
        x.thing(5);
        x.thing(-7);
        Due.due("holds without jurors", x.holds(0, 0), -1);
        x.juror(1, 0, 0, -1);
        Due.due("holds 3", x.holds(0, 3), 0);
        Due.due("leans as told", x.leans(0), -2);
        Due.due("holds 4", x.holds(0, 4), -1);
        Due.due("holds -1", x.holds(0, -1), -1);
        Due.due("holds of juror 1", x.holds(1, 1), -1);
        Due.due("holds of juror -1", x.holds(-1, 1), -1);
        Due.due("holds 1", x.holds(0, 1), 3);
        Due.due("of 6", x.of(0, 6), 1);
        x.begin();
        Due.due("holds in a talk", x.holds(0, 2), 1);
        Due.due("the talk is as it was told then", x.of(0, 6), 1);
        Due.due("leans in the talk", x.leans(0), 5);
        x.begin();
        Due.due("the next talk is as told now", x.of(0, 6), 2);
        Due.due("leans in the next talk", x.leans(0), -7);
    }

    private static void laws() {
        ElevenOne x = new ElevenOne();
        String[] good = {"t", "((((((p))))))", "[(y),[n,m]]*0+999", "10-9-1*2*3/4", "0", "[[[[[[t,p],p],p],p],p],p]"};
        for (int i = 0; i < good.length; i++) {
            Due.due("law " + good[i], Due.law(x, good[i]), i);
        }
        Due.due("a seventh law", Due.law(x, "t"), -2);
        Due.due("a seventh law from no shelf", x.law(8), -1);
        Due.due("a seventh law from an empty shelf", x.law(0), -2);
        Due.due("laws", x.count(2), 6);
        Due.due("juror by the last law", x.juror(1, 0, 0, 5), 0);
        Due.due("of 5", x.of(0, 5), 5);
        Due.due("juror by law 6", x.juror(1, 0, 0, 6), -1);
    }

    private static void lawFaults() {
        ElevenOne x = new ElevenOne();
        String[] wrong = {"", "t+", "t-", "t*", "+t", "-t", "t t", " t", "t ", "tp", "07", "00", "1234", "12345", "5t", "t5",
            "(t", "(t]", "t)", "()", "[t]", "[t,p", "[t,p)", "[t,p,y]", "[,t]", "t,p", "(t,p)", "[(t,p],p)", "T", "x", "t++p",
            "(((((((", "((((((t))))))+(((((([t,p]))))))", "[[[[[[[", "t+1000", "(1*)", "t/0/", "3*(2-[1,0)]",
            "[t,((((((t))))))]", "[((((((t)))))),t]", "[(((((t))))),(((((t)))))]+(((((((t"};
        int[] fault = {0, 2, 2, 2, 0, 0, 1, 0, 1, 1, 1, 1, 3, 3, 1, 1,
            2, 2, 1, 1, 2, 4, 4, 4, 1, 1, 2, 3, 0, 0, 2,
            6, 20, 6, 5, 3, 4, 9,
            8, 6, 32};
        for (int i = 0; i < wrong.length; i++) {
            Due.due("law " + wrong[i], Due.law(x, wrong[i]), -100 - fault[i]);
        }
        x.row(7, 0, 2);
        x.put(7, 0, 't');
        Due.due("a law behind which a byte 0 stands", x.law(7), -101);
        x.put(7, 1, -1);
        Due.due("a law behind which a byte -1 stands", x.law(7), -101);
        Due.due("no law was told", x.count(2), 0);
        StringBuilder hundred = new StringBuilder("t+1");
        while (hundred.length() < 99) {
            hundred.append("-1");
        }
        Due.due("a law of 99", Due.law(x, hundred.toString()), 0);
        Due.due("a law of 100 that ends too early", Due.law(x, hundred + "-"), -200);
        Due.due("a law of 100", Due.law(x, hundred + "0"), 1);
        x.juror(1, 0, 0, 0);
        x.juror(1, 0, 0, 1);
        Due.due("leans by 99", x.leans(0), 1 - 48);
        Due.due("leans by 100", x.leans(1), 1 - 57);
    }

    private static void value(String law, int want) {
        ElevenOne x = new ElevenOne();
        x.thing(-7);
        Due.due("law", Due.law(x, law), 0);
        x.juror(1, 0, 0, 0);
        x.holds(0, 1);
        Due.due("the value of " + law, x.leans(0), want);
    }

    private static void lawValues() {
        value("t", -7);
        value("t+p+y+n+m", -7);
        value("2-3-4", -5);
        value("2-(3-4)", 3);
        value("2+3*4", 14);
        value("(2+3)*4", 20);
        value("100/7/2", 7);
        value("t/2", -3);
        value("0-t/2", 3);
        value("t/0", 0);
        value("9/0+1", 1);
        value("[t,3]", 3);
        value("[3,t]", 3);
        value("[t,t-1]", -7);
        value("[2,[5,4]]*[1,1+1]", 10);
        value("[(((((1))))),(((((2)))))]*((((((3))))))", 6);
        value("999*999*999*999", (int) (999L * 999 * 999 * 999));
        value("0-2*999/4", -499);
        value("((0-512)*512*512*16)/(0-1)", Integer.MIN_VALUE);
        value("((0-512)*512*512*16)-1", Integer.MAX_VALUE);
        // y, n and m are asked in a talk: one says yes, the other no, minute 0.
        ElevenOne x = new ElevenOne();
        Due.law(x, "100*y+10*n+m");
        x.juror(4, -5, 0, -1);
        x.juror(4, 1, 0, 0);
        Due.due("leans without a talk", x.leans(1), 0);
        x.begin();
        Due.due("leans at first", x.leans(1), 110);
        x.go(1);
        Due.due("leans later", x.leans(1), 204);
    }

    private static void lawRefusals() {
        ElevenOne x = new ElevenOne();
        Due.due("law -1", x.law(-1), -1);
        Due.due("law 8", x.law(8), -1);
        Due.due("law of nothing", x.law(0), -11);
        x.juror(1, 0, 0, -1);
        x.keep(0, 1, 0);
        Due.due("law of a juror", x.law(0), -12);
        x.row(0, 1, 1);
        x.put(0, 0, 't');
        Due.due("law of shorts", x.law(0), -12);
        x.row(0, 2, 1);
        x.put(0, 0, 't');
        Due.due("law of ints", x.law(0), -12);
        Due.due("law of bytes", Due.law(x, "t"), 0);
        x.put(7, 0, 'p');
        x.thing(9);
        x.juror(1, 0, 0, 0);
        x.holds(1, 1);
        Due.due("a law stays as it was told", x.leans(1), 9);
    }

    private static void rule() {
        ElevenOne x = new ElevenOne();
        int[] least = {1, 0, 0, 1};
        int[] most = {12, 11, 1, 3000};
        int[] first = {12, 0, 0, 600};
        for (int what = 0; what < 4; what++) {
            Due.due("set below", x.set(what, least[what] - 1), -1);
            Due.due("set above", x.set(what, most[what] + 1), -1);
            Due.due("set least", x.set(what, least[what]), first[what]);
            Due.due("set most", x.set(what, most[what]), least[what]);
            Due.due("set again", x.set(what, least[what]), most[what]);
        }
        Due.due("set -1", x.set(-1, 1), -1);
        Due.due("set -1 to 0", x.set(-1, 0), -1);
        Due.due("set 4 to 0", x.set(4, 0), -1);
        Due.due("set 4", x.set(4, 1), -1);
        Due.due("set lowest", x.set(Integer.MIN_VALUE, 1), -1);
    }
}

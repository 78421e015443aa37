import java.util.Random;

/** Long runs of calls by chance from fixed seeds: the class and the model must answer alike. */
public final class ModelTest {
    private static final String[] LAWS = {
        "t+p", "t", "p*2+t-[y,n]/m", "(t+p)*(y-n)/3", "[t,p]-m/10", "t*3/2+p+y-n", "0", "999-m", "t+p-m/30+y",
        "[[t,p],[y-n,m/20]]", "((((((t))))))", "(((((((t)))))))", "t*999*999*999+p", "1-1-1*2*3/4", "t/0+p", "t-p/(y-n)",
        "[t,((((((p))))))]", "[t,(((((p)))))]", "[((((((t)))))),p]", "07", "1234", "t+", "", "[t]", "[t,p", "(t,p)", "t p", "-t", "t)", "t+p]", "x", "((t+[p,1)))", "100", "00", "t*p*p*p",
        "[p,t]*[p,t]*[p,t]*999*999", "(0-1)*999*999*999*3/(0-1)"
    };
    private static final int[] WIDE = {Integer.MIN_VALUE, Integer.MAX_VALUE, -1, 0, 1, 12, 13, 100, 101, -100, 1 << 12, 60, 61};

    private final Random chance;
    private final ElevenOne x = new ElevenOne();
    private final Model m = new Model();
    private final StringBuilder calls = new StringBuilder();
    private boolean failed = false;

    private ModelTest(long seed) {
        chance = new Random(seed);
    }

    private int upTo(int n) {
        return chance.nextInt(n);
    }

    private int near(int least, int most) {
        if (upTo(40) == 0) {
            return WIDE[upTo(WIDE.length)];
        }
        if (upTo(25) == 0) {
            return chance.nextBoolean() ? least - 1 : most + 1;
        }
        return least + upTo(most - least + 1);
    }

    private void check(String call, long got, long want) {
        calls.append(call).append(" = ").append(want).append('\n');
        if (got != want && !failed) {
            failed = true;
            System.out.println(calls);
            System.out.println("the last call answered " + got);
        }
    }

    private static String code(ElevenOne x, int d, int i) {
        try {
            return "" + x.element(d, i);
        } catch (RuntimeException e) {
            return e.getClass().getName();
        }
    }

    private static String code(Model m, int d, int i) {
        try {
            return "" + m.element(d, i);
        } catch (RuntimeException e) {
            return e.getClass().getName();
        }
    }

    private void tellLaw() {
        String law = LAWS[upTo(LAWS.length)];
        if (upTo(4) == 0 && law.length() > 0) {
            StringBuilder b = new StringBuilder(law);
            b.setCharAt(upTo(law.length()), "tpynm0123+-*/()[],x".charAt(upTo(19)));
            law = b.toString();
        }
        int d = upTo(8);
        check("row " + d + " 0 " + law.length(), x.row(d, 0, law.length()), m.row(d, 0, law.length()));
        for (int i = 0; i < law.length(); i++) {
            check("put " + law, x.put(d, i, law.charAt(i)), m.put(d, i, law.charAt(i)));
        }
        check("law " + d + " " + law, x.law(d), m.law(d));
    }

    private void tellJuror(int minutes) {
        int told = 1000 * near(0, 7) + 100 * near(0, 9) + near(1, minutes);
        int line = upTo(3) == 0 ? near(-99, 99) : near(-6, 6);
        int patience = upTo(3) == 0 ? near(0, 999) : near(0, 60);
        int law = near(-1, Math.max(0, m.s.laws.size() - 1));
        check("juror " + told + " " + line + " " + patience + " " + law,
            x.juror(told, line, patience, law), m.juror(told, line, patience, law));
    }

    private void tellThings() {
        int j = near(0, Math.max(0, m.s.people.size() - 1));
        int held = near(0, (1 << m.s.speaks.size()) - 1);
        if (upTo(3) > 0) {
            held &= upTo(1 << 12);
        }
        check("holds " + j + " " + held, x.holds(j, held), m.holds(j, held));
    }

    private void setRule() {
        int what = near(0, 3);
        int n = what == 0 ? near(1, 12) : what == 1 ? near(0, 11) : what == 2 ? near(0, 1) : near(1, upTo(2) == 0 ? 3000 : 100);
        check("set " + what + " " + n, x.set(what, n), m.set(what, n));
    }

    private void askTalk() {
        int a = near(0, 11);
        switch (upTo(8)) {
            case 0: check("begin", x.begin(), m.begin()); break;
            case 1: case 2: { int n = near(1, upTo(3) == 0 ? 60 : 5); check("go " + n, x.go(n), m.go(n)); break; }
            case 3: { int w = near(0, 5); check("talk " + w, x.talk(w), m.talk(w)); break; }
            case 4: check("leans " + a, x.leans(a), m.leans(a)); break;
            default: { int w = near(0, 9); check("of " + a + " " + w, x.of(a, w), m.of(a, w)); break; }
        }
    }

    private void askRun() {
        int a = near(0, 11);
        int w = near(0, 2);
        switch (upTo(12)) {
            case 0: { int what = near(0, 4); check("run " + what, x.run(what), m.run(what)); break; }
            case 1: { boolean f = chance.nextBoolean(); check("slips " + f, x.slips(f), m.slips(f)); break; }
            case 2: case 3: check("moved " + a + " " + w, x.moved(a, w), m.moved(a, w)); break;
            case 4: check("out " + a, x.out(a), m.out(a)); break;
            case 5: check("one", x.one(), m.one()); break;
            case 6: check("six " + a + " " + w, x.six(a, w), m.six(a, w)); break;
            case 7: check("lost " + a, x.lost(a), m.lost(a)); break;
            case 8: check("leads " + w, x.leads(w), m.leads(w)); break;
            case 9: check("hands", x.hands(), m.hands()); break;
            case 10: check("leftOut " + w, x.leftOut(w), m.leftOut(w)); break;
            default: {
                int n = near(1, 30);
                int z = chance.nextInt();
                int odds = near(0, 100);
                check("worlds " + n + " " + z + " " + odds + " " + w, x.worlds(n, z, odds, w), m.worlds(n, z, odds, w));
            }
        }
    }

    private void useShelves() {
        int d = near(0, 7);
        int e = near(0, 7);
        int i = near(0, 9);
        int j = near(0, 9);
        switch (upTo(8)) {
            case 0: { int w = near(0, 1); check("keep " + d + " " + w + " " + i, x.keep(d, w, i), m.keep(d, w, i)); break; }
            case 1: { int s = near(0, 2); int n = near(0, upTo(4) == 0 ? 100 : 10); check("row " + d + " " + s + " " + n, x.row(d, s, n), m.row(d, s, n)); break; }
            case 2: { int v = chance.nextInt() >> upTo(32); check("put " + d + " " + i + " " + v, x.put(d, i, v), m.put(d, i, v)); break; }
            case 3: {
                String want = code(m, d, i);
                check("element " + d + " " + i + " " + want, code(x, d, i).equals(want) ? 1 : 0, 1);
                break;
            }
            case 4: case 5: { int n = near(0, 6); check("copy " + d + " " + i + " " + e + " " + j + " " + n, x.copy(d, i, e, j, n), m.copy(d, i, e, j, n)); break; }
            case 6: check("voice " + d, x.voice(d), m.voice(d)); break;
            default: check("toss " + d, x.toss(d), m.toss(d));
        }
    }

    private void round(int minutes) {
        switch (upTo(16)) {
            case 0: { int v = near(-20, 20); check("thing " + v, x.thing(v), m.thing(v)); break; }
            case 1: tellJuror(minutes); break;
            case 2: case 3: tellThings(); break;
            case 4: setRule(); break;
            case 5: case 6: case 7: case 8: askTalk(); break;
            case 9: case 10: case 11: askRun(); break;
            case 12: { int w = near(0, 4); check("count " + w, x.count(w), m.count(w)); break; }
            case 13: if (upTo(3) == 0) { check("image", x.image(), m.image()); } else if (upTo(3) == 0) { check("restore", x.restore(), m.restore()); } break;
            default: useShelves();
        }
    }

    private boolean play() {
        int minutes = upTo(2) == 0 ? 30 : 3;
        int jurors = upTo(13);
        int things = upTo(13);
        for (int i = 0; i < upTo(4); i++) {
            tellLaw();
        }
        for (int i = 0; i < things; i++) {
            int v = near(-20, 20);
            check("thing " + v, x.thing(v), m.thing(v));
        }
        for (int i = 0; i < jurors; i++) {
            tellJuror(minutes);
            tellThings();
        }
        for (int i = 0; i < 250 && !failed; i++) {
            round(minutes);
            if (upTo(40) == 0) {
                tellLaw();
            }
        }
        return failed;
    }

    public static void main(String[] args) {
        int from = args.length > 0 ? Integer.parseInt(args[0]) : 0;
        int runs = args.length > 1 ? Integer.parseInt(args[1]) : 150;
        for (int seed = from; seed < from + runs; seed++) {
            if (new ModelTest(seed).play()) {
                System.out.println("the class and the model part at seed " + seed);
                System.exit(1);
            }
        }
        System.out.println(runs + " runs: the class and the model answer alike");
    }
}

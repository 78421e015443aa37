/** Whatever it is asked, in whatever state, no call throws (but element, as the document says). */
public final class ExtremesTest {
    private static final int[] N = {Integer.MIN_VALUE, Integer.MIN_VALUE + 1, -65536, -101, -100, -99, -21, -20, -1, 0, 1, 2, 3, 5, 7, 8, 11,
        12, 13, 20, 21, 30, 31, 60, 61, 99, 100, 101, 999, 1000, 3000, 3001, 4095, 4096, 7930, 8001, 65536,
        Integer.MAX_VALUE - 1, Integer.MAX_VALUE};
    private static final int[] FEW = {Integer.MIN_VALUE, -1, 0, 1, 2, 7, 8, 12, 100, Integer.MAX_VALUE};

    private static String now = "";

    public static void main(String[] args) {
        for (int state = 0; state < 7; state++) {
            try {
                ask(room(state));
                tell(room(state));
                shelves(room(state));
            } catch (RuntimeException e) {
                System.out.println("state " + state + ": " + now + " threw " + e);
                System.exit(1);
            }
        }
        Due.finish();
    }

    /** Nothing; things alone; one juror; a full room; a talk in it; one that hung; rows and jurors on shelves, an image. */
    private static ElevenOne room(int state) {
        ElevenOne x = new ElevenOne();
        for (int i = 0; i < (state == 0 ? 0 : 12); i++) {
            x.thing(20 - 3 * i);
        }
        Due.law(x, "t*p*999*999*999-[y,m]/(n-3)");
        for (int i = 0; i < (state < 2 ? 0 : state == 2 ? 1 : 12); i++) {
            x.juror(1000 * (i % 8) + 901 + i, 20 - 7 * i, 5 * i, i % 2 - 1);
            x.holds(i, 1 << i | 64);
        }
        if (state > 3) {
            x.set(1, 11);
            x.set(2, 1);
            x.begin();
            x.go(2);
        }
        if (state > 4) {
            x.set(3, 1);
        }
        if (state > 5) {
            x.image();
            for (int d = 0; d < 8; d++) {
                x.row(d, d % 3, d == 3 ? 0 : 100 - d);
            }
            x.keep(1, 1, 1);
            x.keep(5, 1, 3);
        }
        return x;
    }

    private static void ask(ElevenOne x) {
        for (int a : N) {
            now = "asked " + a;
            x.leans(a);
            x.talk(a);
            x.run(a);
            x.out(a);
            x.lost(a);
            x.count(a);
            x.voice(a);
            x.toss(a);
            for (int b : N) {
                now = "asked " + a + " " + b;
                x.of(a, b);
                x.moved(a, b);
                x.six(a, b);
                element(x, a, b);
            }
            x.leads(a);
            x.leftOut(a);
        }
        for (int n : FEW) {
            for (int odds : FEW) {
                for (int what : FEW) {
                    now = "worlds " + n + " " + odds + " " + what;
                    x.worlds(n, n * odds + what, odds, what);
                }
            }
        }
        x.slips(true);
        x.slips(false);
        x.one();
        x.hands();
    }

    private static void element(ElevenOne x, int d, int i) {
        try {
            x.element(d, i);
        } catch (IllegalArgumentException | IllegalStateException e) {
            now = "told";
        }
    }

    private static void tell(ElevenOne x) {
        for (int a : N) {
            for (int b : N) {
                now = "told " + a + " " + b;
                x.set(a, b);
                x.holds(a, b);
                x.begin();
                x.go(a);
                x.go(b);
                x.law(a);
                x.thing(a);
            }
            now = "image " + a;
            if (a % 2 == 0) {
                x.image();
            } else {
                x.restore();
            }
        }
        for (int told : N) {
            for (int line : FEW) {
                for (int patience : FEW) {
                    for (int law : FEW) {
                        now = "juror " + told + " " + line + " " + patience + " " + law;
                        x.juror(told, line, patience, law);
                    }
                }
            }
        }
        now = "begin";
        x.begin();
        x.go(60);
        x.restore();
        x.go(60);
    }

    private static void shelves(ElevenOne x) {
        for (int d : FEW) {
            for (int i : FEW) {
                for (int e : FEW) {
                    for (int j : FEW) {
                        for (int n : FEW) {
                            now = "copy " + d + " " + i + " " + e + " " + j + " " + n;
                            x.copy(d, i, e, j, n);
                        }
                    }
                    now = "put or keep or row " + d + " " + i + " " + e;
                    x.put(d, i, e);
                    if (d == 2) {
                        x.keep(e, i, d);
                        x.row(i, e, d);
                    }
                }
            }
        }
    }
}

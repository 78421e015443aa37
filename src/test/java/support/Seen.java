/** All that can be asked of an object, as one text, so that a refused call can be shown to change nothing. */
final class Seen {
    private Seen() {
    }

    static String of(ElevenOne x) {
        StringBuilder b = new StringBuilder();
        for (int what = 0; what < 5; what++) {
            b.append(x.count(what)).append(' ');
        }
        for (int juror = 0; juror < x.count(1); juror++) {
            juror(x, juror, b);
        }
        for (int what = 0; what < 6; what++) {
            b.append(x.talk(what)).append(' ');
        }
        rule(x, b);
        b.append(x.one()).append(' ').append(x.slips(true)).append(' ').append(x.slips(false)).append('\n');
        for (int d = 0; d < 8; d++) {
            shelf(x, d, b);
        }
        return b.toString();
    }

    private static void juror(ElevenOne x, int juror, StringBuilder b) {
        for (int what = 0; what < 10; what++) {
            b.append(x.of(juror, what)).append(' ');
        }
        int told = x.holds(juror, 0);
        x.holds(juror, told);
        b.append(told).append(' ').append(x.leans(juror)).append('\n');
    }

    private static void rule(ElevenOne x, StringBuilder b) {
        for (int what = 0; what < 4; what++) {
            int was = x.set(what, 1);
            x.set(what, was);
            b.append(was).append(' ');
        }
    }

    private static void shelf(ElevenOne x, int d, StringBuilder b) {
        b.append(x.voice(d)).append(' ').append(x.toss(d));
        for (int i = 0; i < 101; i++) {
            String element = Due.element(x, d, i);
            if (element.equals("IllegalStateException")) {
                break;
            }
            b.append(' ').append(element);
        }
        b.append('\n');
    }
}

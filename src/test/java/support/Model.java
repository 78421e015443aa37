import java.util.ArrayList;
import java.util.List;

/**
 * The document once more, written for plainness alone and in another way than the class:
 * lists instead of bits, laws worked out from their text, nothing kept that can be asked anew.
 */
final class Model {
    static final class Person {
        int number, kind, heeds, minutes, line, patience, law;
        boolean[] told = new boolean[12];

        Person again() {
            Person p = new Person();
            p.number = number;
            p.kind = kind;
            p.heeds = heeds;
            p.minutes = minutes;
            p.line = line;
            p.patience = patience;
            p.law = law;
            p.told = told.clone();
            return p;
        }
    }

    static final class Speech {
        List<Person> people = new ArrayList<>();
        boolean[][] held;
        int[] pushed, firstPushed;
        boolean[] slip, first, gave, gaveYes;
        int minute, turns, next;

        Speech again() {
            Speech s = new Speech();
            for (Person p : people) {
                s.people.add(p.again());
            }
            s.held = new boolean[held.length][];
            for (int i = 0; i < held.length; i++) {
                s.held[i] = held[i].clone();
            }
            s.pushed = pushed.clone();
            s.firstPushed = firstPushed.clone();
            s.slip = slip.clone();
            s.first = first.clone();
            s.gave = gave.clone();
            s.gaveYes = gaveYes.clone();
            s.minute = minute;
            s.turns = turns;
            s.next = next;
            return s;
        }
    }

    static final class State {
        List<Integer> speaks = new ArrayList<>();
        List<Person> people = new ArrayList<>();
        List<String> laws = new ArrayList<>();
        int needed = 12, leader = 0, hands = 0, limit = 600;
        Speech speech = null;

        State again() {
            State s = new State();
            s.speaks.addAll(speaks);
            for (Person p : people) {
                s.people.add(p.again());
            }
            s.laws.addAll(laws);
            s.needed = needed;
            s.leader = leader;
            s.hands = hands;
            s.limit = limit;
            s.speech = speech == null ? null : speech.again();
            return s;
        }
    }

    static final int FAR = -1000000001;
    State s = new State();
    State picture = null;
    Object[] shelf = new Object[8];

    // ---- laws by their text

    private String text;
    private int at;
    private int fault;
    private int t, p, y, n, m;

    private char look() {
        return at < text.length() ? text.charAt(at) : (char) 5000;
    }

    private static final class Fault extends RuntimeException {
        private static final long serialVersionUID = 1;
    }

    private void need(boolean good) {
        if (!good) {
            throw new Fault();
        }
    }

    private int sum(int deep) {
        int v = product(deep);
        while (look() == '+' || look() == '-') {
            boolean plus = look() == '+';
            at++;
            int w = product(deep);
            v = plus ? v + w : v - w;
        }
        return v;
    }

    private int product(int deep) {
        int v = atom(deep);
        while (look() == '*' || look() == '/') {
            boolean times = look() == '*';
            at++;
            int w = atom(deep);
            v = times ? v * w : w == 0 ? 0 : (int) ((long) v / w);
        }
        return v;
    }

    private int atom(int deep) {
        char c = look();
        if (c == '(') {
            need(deep < 6);
            at++;
            int v = sum(deep + 1);
            need(look() == ')');
            at++;
            return v;
        }
        if (c == '[') {
            need(deep < 6);
            at++;
            int v = sum(deep + 1);
            need(look() == ',');
            at++;
            int w = sum(deep + 1);
            need(look() == ']');
            at++;
            return Math.max(v, w);
        }
        if (c == '0') {
            at++;
            return 0;
        }
        if (c >= '1' && c <= '9') {
            String digits = "";
            while (look() >= '0' && look() <= '9' && digits.length() < 3) {
                digits += look();
                at++;
            }
            return Integer.parseInt(digits);
        }
        need("tpynm".indexOf(c) >= 0);
        at++;
        return c == 't' ? t : c == 'p' ? p : c == 'y' ? y : c == 'n' ? n : m;
    }

    private int faultOf(String law) {
        text = law;
        at = 0;
        try {
            sum(0);
            return at < text.length() ? at : -1;
        } catch (Fault f) {
            return at;
        }
    }

    private int lean(int law, int tt, int pp, int yy, int nn, int mm) {
        text = law < 0 ? "t+p" : s.laws.get(law);
        at = 0;
        t = tt;
        p = pp;
        y = yy;
        n = nn;
        m = mm;
        return sum(0);
    }

    // ---- talks

    private int spoken(boolean[] held) {
        int sum = 0;
        for (int i = 0; i < s.speaks.size(); i++) {
            sum += held[i] ? s.speaks.get(i) : 0;
        }
        return sum;
    }

    private static int bits(boolean[] b) {
        int v = 0;
        for (int i = 0; i < b.length; i++) {
            v += b[i] ? 1 << i : 0;
        }
        return v;
    }

    private static int many(boolean[] b) {
        int v = 0;
        for (boolean one : b) {
            v += one ? 1 : 0;
        }
        return v;
    }

    private int leanIn(Speech k, int j) {
        int yes = many(k.slip);
        return lean(k.people.get(j).law, spoken(k.held[j]), k.pushed[j], yes, k.slip.length - yes, k.minute);
    }

    private Speech start(List<Person> people, int leader, int hands) {
        Speech k = new Speech();
        int size = people.size();
        k.people = people;
        k.held = new boolean[size][];
        k.pushed = new int[size];
        k.slip = new boolean[size];
        k.gave = new boolean[size];
        k.gaveYes = new boolean[size];
        k.next = leader < size ? leader : 0;
        int yes = 0;
        int no = 0;
        for (int i = 0; i < size; i++) {
            int j = (k.next + i) % size;
            Person a = people.get(j);
            k.held[j] = a.told.clone();
            if (hands == 1) {
                k.pushed[j] = a.heeds * yes - a.heeds * no;
            }
            k.slip[j] = lean(a.law, spoken(a.told), k.pushed[j], 0, 0, 0) >= a.line;
            yes += k.slip[j] ? 1 : 0;
            no += k.slip[j] ? 0 : 1;
        }
        k.firstPushed = k.pushed.clone();
        k.first = k.slip.clone();
        return k;
    }

    private int ending(Speech k, int needed, int limit) {
        int yes = many(k.slip);
        int no = k.slip.length - yes;
        int want = Math.min(needed, k.slip.length);
        return yes >= want ? 1 : no >= want ? 0 : k.minute >= limit ? 2 : -4;
    }

    private boolean allHold(Speech k, int thing) {
        for (boolean[] h : k.held) {
            if (!h[thing]) {
                return false;
            }
        }
        return true;
    }

    private int allHold(Speech k) {
        int v = 0;
        for (int i = 0; i < s.speaks.size(); i++) {
            v += allHold(k, i) ? 1 << i : 0;
        }
        return v;
    }

    private void thingTurn(Speech k, int j) {
        int best = -1;
        for (int i = s.speaks.size() - 1; i >= 0; i--) {
            if (k.held[j][i] && !allHold(k, i)
                    && (best < 0 || Math.abs(s.speaks.get(i)) >= Math.abs(s.speaks.get(best)))) {
                best = i;
            }
        }
        if (best >= 0) {
            for (boolean[] h : k.held) {
                h[best] = true;
            }
        }
    }

    private void turn(Speech k) {
        int size = k.people.size();
        int j = k.next;
        Person a = k.people.get(j);
        int yes = many(k.slip);
        int no = size - yes;
        if (a.kind == 1 || a.kind == 4) {
            thingTurn(k, j);
        }
        if (a.kind == 4) {
            int[] leaning = new int[size];
            for (int i = 0; i < size; i++) {
                leaning[i] = leanIn(k, i);
            }
            for (int i = 0; i < size; i++) {
                if (Math.abs((long) leaning[i] - k.people.get(i).line) < 5) {
                    k.pushed[i] += k.slip[j] ? 2 : -2;
                }
            }
        }
        if (a.kind == 2 || a.kind == 3) {
            for (int i = 0; i < size; i++) {
                k.pushed[i] += k.people.get(i).heeds * (yes - no) / 4;
            }
        }
        if (a.kind == 3) {
            for (int i = 0; i < size; i++) {
                if (yes > no && !k.slip[i]) {
                    k.pushed[i] += 2 * k.people.get(i).heeds;
                }
                if (no > yes && k.slip[i]) {
                    k.pushed[i] -= 2 * k.people.get(i).heeds;
                }
            }
        }
        if (a.kind == 5) {
            for (int i = 0; i < size; i++) {
                k.pushed[i] = k.pushed[i] / 2;
            }
        }
        if (a.kind == 7 && k.minute >= a.patience && !k.gave[j]) {
            k.gave[j] = true;
            k.gaveYes[j] = yes >= no;
        }
        k.minute += a.minutes;
        k.turns++;
        k.next = (j + 1) % size;
        boolean[] slip = new boolean[size];
        for (int i = 0; i < size; i++) {
            slip[i] = k.gave[i] ? k.gaveYes[i] : leanIn(k, i) >= k.people.get(i).line;
        }
        k.slip = slip;
    }

    private Speech through(List<Person> people, int needed, int leader, int hands) {
        Speech k = start(people, leader, hands);
        while (ending(k, needed, s.limit) == -4) {
            turn(k);
        }
        return k;
    }

    private Speech through() {
        return through(s.people, s.needed, s.leader, s.hands);
    }

    private int end(List<Person> people, int needed, int leader, int hands) {
        return ending(through(people, needed, leader, hands), needed, s.limit);
    }

    // ---- the face

    int thing(int speaks) {
        if (Math.abs((long) speaks) > 20) {
            return -1;
        }
        if (s.speaks.size() == 12) {
            return -2;
        }
        s.speaks.add(speaks);
        return s.speaks.size() - 1;
    }

    int juror(int told, int line, int patience, int law) {
        if (told < 0 || told / 1000 > 7 || told % 100 == 0 || told % 100 > 30 || Math.abs((long) line) > 99
                || patience < 0 || patience > 999 || law < -1 || law >= s.laws.size()) {
            return -1;
        }
        if (s.people.size() == 12) {
            return -2;
        }
        Person a = new Person();
        a.number = s.people.size();
        a.kind = told / 1000;
        a.heeds = told / 100 % 10;
        a.minutes = told % 100;
        a.line = line;
        a.patience = patience;
        a.law = law;
        s.people.add(a);
        s.speech = null;
        return a.number;
    }

    private boolean isPerson(int j) {
        return j >= 0 && j < s.people.size();
    }

    int holds(int juror, int things) {
        if (!isPerson(juror) || things < 0 || things >> s.speaks.size() != 0) {
            return -1;
        }
        int was = bits(s.people.get(juror).told);
        for (int i = 0; i < 12; i++) {
            s.people.get(juror).told[i] = (things >> i) % 2 == 1;
        }
        return was;
    }

    int of(int juror, int what) {
        if (!isPerson(juror) || what < 0 || what > 9) {
            return FAR;
        }
        Person a = s.people.get(juror);
        Speech k = s.speech;
        int[] plain = {a.kind, a.heeds, a.minutes, a.line, a.patience, a.law, bits(a.told), 0, 0, 0};
        if (k != null) {
            plain[6] = bits(k.held[juror]);
            plain[7] = k.pushed[juror];
            plain[8] = k.slip[juror] ? 1 : 0;
            plain[9] = k.gave[juror] ? 1 : 0;
        }
        return plain[what];
    }

    int leans(int juror) {
        if (!isPerson(juror)) {
            return FAR;
        }
        if (s.speech != null) {
            return leanIn(s.speech, juror);
        }
        Person a = s.people.get(juror);
        return lean(a.law, spoken(a.told), 0, 0, 0, 0);
    }

    int law(int d) {
        if (d < 0 || d > 7) {
            return -1;
        }
        if (s.laws.size() == 6) {
            return -2;
        }
        if (shelf[d] == null) {
            return -11;
        }
        if (!(shelf[d] instanceof byte[])) {
            return -12;
        }
        StringBuilder b = new StringBuilder();
        for (byte one : (byte[]) shelf[d]) {
            b.append((char) (one & 255));
        }
        fault = faultOf(b.toString());
        if (fault >= 0) {
            return -100 - fault;
        }
        s.laws.add(b.toString());
        return s.laws.size() - 1;
    }

    int set(int what, int n) {
        int was;
        if (what == 0 && n >= 1 && n <= 12) {
            was = s.needed;
            s.needed = n;
        } else if (what == 1 && n >= 0 && n <= 11) {
            was = s.leader;
            s.leader = n;
        } else if (what == 2 && (n == 0 || n == 1)) {
            was = s.hands;
            s.hands = n;
        } else if (what == 3 && n >= 1 && n <= 3000) {
            was = s.limit;
            s.limit = n;
        } else {
            was = -1;
        }
        return was;
    }

    int begin() {
        if (s.people.isEmpty()) {
            return -3;
        }
        List<Person> people = new ArrayList<>();
        for (Person a : s.people) {
            people.add(a.again());
        }
        s.speech = start(people, s.leader, s.hands);
        return many(s.speech.slip);
    }

    int go(int n) {
        if (n < 1 || n > 60) {
            return -1;
        }
        if (s.speech == null) {
            return -3;
        }
        for (int i = 0; i < n; i++) {
            if (ending(s.speech, s.needed, s.limit) == -4) {
                turn(s.speech);
            }
        }
        return ending(s.speech, s.needed, s.limit);
    }

    int talk(int what) {
        if (what < 0 || what > 5) {
            return -1;
        }
        Speech k = s.speech;
        if (k == null) {
            return -3;
        }
        int yes = many(k.slip);
        return new int[] {k.minute, yes, k.slip.length - yes, k.turns, allHold(k), ending(k, s.needed, s.limit)}[what];
    }

    int run(int what) {
        if (what < 0 || what > 4) {
            return -1;
        }
        if (s.people.isEmpty()) {
            return -3;
        }
        Speech k = through();
        return new int[] {ending(k, s.needed, s.limit), k.minute, k.turns, many(k.first), many(k.slip)}[what];
    }

    int slips(boolean first) {
        if (s.people.isEmpty()) {
            return -3;
        }
        Speech k = through();
        return bits(first ? k.first : k.slip);
    }

    int moved(int juror, int what) {
        if (!isPerson(juror) || what < 0 || what > 2) {
            return FAR;
        }
        Speech k = through();
        if (what == 0) {
            return spoken(k.held[juror]) - spoken(s.people.get(juror).told);
        }
        return what == 1 ? k.pushed[juror] - k.firstPushed[juror] : k.gave[juror] ? 1 : 0;
    }

    int out(int thing) {
        if (thing < 0 || thing >= s.speaks.size()) {
            return -1;
        }
        if (s.people.isEmpty()) {
            return -3;
        }
        Speech k = start(s.people, s.leader, s.hands);
        if (allHold(k, thing)) {
            return 0;
        }
        while (ending(k, s.needed, s.limit) == -4) {
            int minute = k.minute;
            turn(k);
            if (allHold(k, thing)) {
                return minute;
            }
        }
        return -4;
    }

    int one() {
        int v = 0;
        for (int i = 0; i < s.speaks.size(); i++) {
            int holders = 0;
            for (Person a : s.people) {
                holders += a.told[i] ? 1 : 0;
            }
            v += holders == 1 ? 1 << i : 0;
        }
        return v;
    }

    int six(int n, int what) {
        if (n < 1 || n > s.people.size() || what < 0 || what > 2) {
            return -1;
        }
        int needed = Math.min(s.needed, n);
        Speech k = through(s.people.subList(0, n), needed, s.leader < n ? s.leader : 0, s.hands);
        return new int[] {ending(k, needed, s.limit), k.minute, bits(k.slip)}[what];
    }

    int lost(int k) {
        if (k < 1 || k > 12) {
            return -1;
        }
        if (s.people.isEmpty()) {
            return -3;
        }
        int all = allHold(through(s.people, s.people.size(), s.leader, s.hands));
        return all & ~allHold(through(s.people, k, s.leader, s.hands));
    }

    int leads(int end) {
        if (end < 0 || end > 2) {
            return -1;
        }
        if (s.people.isEmpty()) {
            return -3;
        }
        int v = 0;
        for (int i = 0; i < s.people.size(); i++) {
            v += end(s.people, s.needed, i, s.hands) == end ? 1 << i : 0;
        }
        return v;
    }

    int hands() {
        if (s.people.isEmpty()) {
            return -3;
        }
        return 10 * end(s.people, s.needed, s.leader, 1) + end(s.people, s.needed, s.leader, 0);
    }

    private boolean endsWithout(int set, int end) {
        int leader = isPerson(s.leader) ? s.leader : 0;
        List<Person> left = new ArrayList<>();
        int place = 0;
        for (int i = 0; i < s.people.size(); i++) {
            if ((set >> i) % 2 == 0) {
                if (i == leader) {
                    place = left.size();
                }
                left.add(s.people.get(i));
            }
        }
        int fewer = s.people.size() - left.size();
        int needed = Math.max(1, Math.min(s.needed, s.people.size()) - fewer);
        return end(left, needed, place, s.hands) == end;
    }

    int leftOut(int end) {
        if (end < 0 || end > 2) {
            return -1;
        }
        int size = s.people.size();
        if (size == 0) {
            return -3;
        }
        int best = -4;
        int fewest = 4;
        for (int set = 0; set < 1 << size; set++) {
            int many = Integer.bitCount(set);
            if (many < fewest && many < size && endsWithout(set, end)) {
                best = set;
                fewest = many;
            }
        }
        return best;
    }

    int worlds(int n, int z, int odds, int what) {
        if (n < 1 || n > 30 || odds < 0 || odds > 100 || what < 0 || what > 2) {
            return -1;
        }
        if (s.people.isEmpty()) {
            return -3;
        }
        int found = 0;
        for (int w = 0; w < n; w++) {
            List<Person> people = new ArrayList<>();
            for (Person a : s.people) {
                Person b = a.again();
                for (int i = 0; i < s.speaks.size(); i++) {
                    z = z * 1103515245 + 12345;
                    int free = z & Integer.MAX_VALUE;
                    b.told[i] = (free >> 16) % 100 < odds;
                }
                people.add(b);
            }
            Speech k = through(people, s.needed, s.leader, s.hands);
            int end = ending(k, s.needed, s.limit);
            int yes = many(k.first);
            int no = people.size() - yes;
            boolean knows = yes > no && end == 1 || no > yes && end == 0;
            found += what == 0 && knows || what == 1 && end == 1 || what == 2 && end == 2 ? 1 : 0;
        }
        return found;
    }

    int image() {
        picture = s.again();
        return s.people.size();
    }

    int restore() {
        if (picture == null) {
            return -3;
        }
        s = picture.again();
        return s.people.size();
    }

    int count(int what) {
        int spoken = 0;
        for (int v : s.speaks) {
            spoken += v;
        }
        int all = 0;
        for (int i = 0; i < s.speaks.size(); i++) {
            boolean every = true;
            for (Person a : s.people) {
                every &= a.told[i];
            }
            all += every ? 1 << i : 0;
        }
        return what == 0 ? s.speaks.size() : what == 1 ? s.people.size() : what == 2 ? s.laws.size()
                : what == 3 ? spoken : what == 4 ? all : FAR;
    }

    int keep(int d, int what, int k) {
        if (d < 0 || d > 7 || what != 0 && what != 1 || what == 1 && !isPerson(k)) {
            return -1;
        }
        shelf[d] = what == 0 ? null : s.people.get(k).again();
        return 0;
    }

    int row(int d, int sort, int n) {
        if (d < 0 || d > 7 || sort < 0 || sort > 2 || n > 100) {
            return -1;
        }
        if (n < 0) {
            return -14;
        }
        shelf[d] = sort == 0 ? new byte[n] : sort == 1 ? new short[n] : new int[n];
        return 0;
    }

    private int length(Object row) {
        return java.lang.reflect.Array.getLength(row);
    }

    int put(int d, int i, int v) {
        if (d < 0 || d > 7) {
            return -1;
        }
        Object row = shelf[d];
        if (row == null) {
            return -11;
        }
        if (row instanceof Person) {
            return -12;
        }
        if (i < 0 || i >= length(row)) {
            return -13;
        }
        if (row instanceof byte[]) {
            ((byte[]) row)[i] = (byte) v;
        } else if (row instanceof short[]) {
            ((short[]) row)[i] = (short) v;
        } else {
            ((int[]) row)[i] = v;
        }
        return 0;
    }

    long element(int d, int i) {
        if (d < 0 || d > 7) {
            throw new IllegalArgumentException();
        }
        Object row = shelf[d];
        if (row == null || row instanceof Person || i < 0 || i >= length(row)) {
            throw new IllegalStateException();
        }
        return java.lang.reflect.Array.getLong(row, i);
    }

    int copy(int d, int i, int e, int j, int n) {
        if (d < 0 || d > 7 || e < 0 || e > 7) {
            return -1;
        }
        if (shelf[d] == null || shelf[e] == null) {
            return -11;
        }
        if (shelf[d] instanceof Person || shelf[d].getClass() != shelf[e].getClass()) {
            return -12;
        }
        if (n < 0 || i < 0 || j < 0 || (long) i + n > length(shelf[d]) || (long) j + n > length(shelf[e])) {
            return -13;
        }
        System.arraycopy(shelf[d], i, shelf[e], j, n);
        return n;
    }

    private int personRefusal(int d) {
        return d < 0 || d > 7 ? -1 : shelf[d] == null ? -11 : shelf[d] instanceof Person ? 0 : -12;
    }

    int voice(int d) {
        if (personRefusal(d) != 0) {
            return personRefusal(d);
        }
        Person a = (Person) shelf[d];
        int[] voices = {a.minutes, a.minutes + many(a.told), a.minutes + a.heeds, 2 * (a.minutes + a.heeds),
            a.minutes + many(a.told) + 5, a.minutes + 10, a.minutes - 1, a.minutes - 1 + a.patience};
        return voices[a.kind];
    }

    int toss(int d) {
        if (personRefusal(d) != 0) {
            return personRefusal(d);
        }
        Person a = (Person) shelf[d];
        if (a.kind >= 6 || a.heeds == 0) {
            return -15;
        }
        return a.kind == 3 ? a.number + 100 : a.kind == 4 ? 200 + a.heeds : a.number;
    }
}

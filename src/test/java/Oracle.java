import java.math.BigInteger;
import java.util.ArrayDeque;
import java.util.ArrayList;
import java.util.Arrays;
import java.util.Deque;
import java.util.List;
import java.util.regex.Matcher;
import java.util.regex.Pattern;

/**
 * The document told a second time, by other ways than the class goes: offices as objects of
 * a tree of classes, rows of sheets tried one after another, skies copied whole.
 */
final class Oracle {
    private static final int NONE = -1000000, BAD = -1000001, STATE = -1000002, FULL = -1000003;
    private static final String SORTS = "bflda";

    /** An office; its kinds are classes, as the document's tree has them. */
    static class Office implements Cloneable {
        int number, land, height, files, burnt;

        int lift() {
            return 1;
        }

        int size(List<Integer> trace) {
            trace.add(10);
            return files;
        }

        int mark(List<Integer> trace) {
            trace.add(20);
            return number;
        }

        void burnOne() {
            files--;
            burnt++;
            height = Math.min(20, height + lift());
        }

        void hour(int[] winds, int sinks) {
            height = Math.max(height - sinks, 0);
            if (height == 0) {
                return;
            }
            int band = height <= 5 ? 0 : height <= 10 ? 1 : height <= 15 ? 2 : 3;
            land += winds[band] - 2;
            land = land < 0 ? 0 : land > 9 ? 9 : land;
        }

        Office twin() {
            try {
                return (Office) clone();
            } catch (CloneNotSupportedException e) {
                throw new IllegalStateException(e);
            }
        }
    }

    static class Bureau extends Office {
        @Override int lift() {
            return 2;
        }

        @Override int size(List<Integer> trace) {
            trace.add(11);
            int files = super.size(trace);
            return files + mark(trace);
        }

        @Override int mark(List<Integer> trace) {
            trace.add(21);
            return super.mark(trace) + height;
        }
    }

    static final class Frugal extends Bureau {
        @Override int lift() {
            return super.lift() / 2;
        }

        @Override int size(List<Integer> trace) {
            trace.add(12);
            return 0 - super.size(trace);
        }

        @Override int mark(List<Integer> trace) {
            trace.add(24);
            return 2 * super.mark(trace);
        }
    }

    static final class Letters extends Bureau {
        @Override int lift() {
            return super.lift() + 1;
        }

        @Override int mark(List<Integer> trace) {
            trace.add(22);
            return super.mark(trace) - 1000;
        }
    }

    static class Damp extends Office {
        @Override int size(List<Integer> trace) {
            trace.add(13);
            return super.size(trace) - 100;
        }

        @Override int mark(List<Integer> trace) {
            trace.add(23);
            int number = super.mark(trace);
            return number - size(trace);
        }
    }

    static final class Archive extends Damp {
        @Override int lift() {
            return height > 5 ? 0 : super.lift();
        }

        @Override int size(List<Integer> trace) {
            trace.add(14);
            return 2 * super.size(trace);
        }
    }

    static final class State {
        int[] winds = new int[4];
        int sinks, hour;
        List<Office> all = new ArrayList<>();

        State twin() {
            State t = new State();
            t.winds = winds.clone();
            t.sinks = sinks;
            t.hour = hour;
            for (Office o : all) {
                t.all.add(o.twin());
            }
            return t;
        }

        State pass() {
            for (Office o : all) {
                o.hour(winds, sinks);
            }
            hour++;
            return this;
        }

        long in(int land) {
            return all.stream().filter(o -> o.land == land).count();
        }
    }

    private static final Class<?>[] KINDS = {Office.class, Bureau.class, Frugal.class, Letters.class, Damp.class, Archive.class};

    private final int[][] rows = new int[8][];
    private final int[] lanes = new int[8];
    private final StringBuilder tape = new StringBuilder();
    private final Deque<State> acts = new ArrayDeque<>();
    private final State[] images = new State[2];
    private List<Integer> trace = new ArrayList<>();
    private State s = null;
    private int fault = 0;
    private int status = 0;

    private static Office make(int kind) {
        switch (kind) {
            case 1: return new Bureau();
            case 2: return new Frugal();
            case 3: return new Letters();
            case 4: return new Damp();
            default: return new Archive();
        }
    }

    private static boolean not(int v, int least, int most) {
        return v < least || v > most;
    }

    private boolean noOffice(int o) {
        return s == null || not(o, 0, s.all.size() - 1);
    }

    private int finding(int number) {
        status = number;
        return -1000010 - number;
    }

    private int plain(int answer) {
        status = 0;
        return answer;
    }

    /** 0, or the finding for n items of a row from i on. */
    private int look(int row, int i, int n) {
        if (rows[row] == null) {
            return 1;
        }
        return i < 0 || n < 0 || (long) i + n > rows[row].length ? 2 : 0;
    }

    int row(int row, int lane, int n) {
        if (not(row, 0, 7) || not(lane, 0, 2) || n > 40) {
            return BAD;
        }
        if (n < 0) {
            return finding(4);
        }
        rows[row] = new int[n];
        lanes[row] = lane;
        return plain(n);
    }

    int set(int row, int i, int v) {
        if (not(row, 0, 7)) {
            return BAD;
        }
        int f = look(row, i, 1);
        if (f != 0) {
            return finding(f);
        }
        int bits = 8 << lanes[row];
        rows[row][i] = v << 32 - bits >> 32 - bits;
        return plain(rows[row][i]);
    }

    int copy(int a, int i, int b, int j, int n) {
        if (not(a, 0, 7) || not(b, 0, 7)) {
            return BAD;
        }
        if (rows[a] == null || rows[b] == null) {
            return finding(1);
        }
        if (lanes[a] != lanes[b]) {
            return finding(5);
        }
        if (look(a, i, n) != 0 || look(b, j, n) != 0) {
            return finding(2);
        }
        int[] were = rows[a].clone();
        for (int k = 0; k < n; k++) {
            rows[b][j + k] = were[i + k];
        }
        return plain(n);
    }

    int drop(int row) {
        if (not(row, 0, 7)) {
            return BAD;
        }
        if (rows[row] == null) {
            return finding(1);
        }
        int n = rows[row].length;
        rows[row] = null;
        return plain(n);
    }

    int feed(int letter) {
        if (not(letter, 0, 255)) {
            return BAD;
        }
        if (tape.length() == 100) {
            return FULL;
        }
        tape.append((char) letter);
        return tape.length();
    }

    /** Tokens first, then each against what may stand at its place of the grammar. */
    int sky() {
        String text = tape.toString();
        tape.setLength(0);
        Matcher m = Pattern.compile("[0-9]+|(?s:.)").matcher(text);
        State t = new State();
        int at = 0;
        while (m.find()) {
            int wrong = wrongWith(m.group(), at, t);
            if (wrong != 0) {
                fault = wrong;
                return -1000100 - m.start();
            }
            at++;
        }
        if (at < 11 + 7 || (at - 11) % 7 != 0) {
            fault = 1;
            return -1000100 - text.length();
        }
        s = t;
        acts.clear();
        return s.all.size();
    }

    /** Tokens 0 to 10 are the law, each 7 behind them an office: the fault of one, or 0. */
    private static int wrongWith(String token, int at, State t) {
        boolean number = token.matches("[0-9]{1,2}");
        if (at < 11) {
            if (at == 0) {
                return token.equals("w") ? 0 : 1;
            }
            if (at % 2 == 0) {
                return token.equals(at == 10 ? ";" : ",") ? 0 : 1;
            }
            if (!number) {
                return 1;
            }
            int v = Integer.parseInt(token);
            if (v > (at == 9 ? 3 : 4)) {
                return 2;
            }
            if (at == 9) {
                t.sinks = v;
            } else {
                t.winds[at / 2] = v;
            }
            return 0;
        }
        int part = (at - 11) % 7;
        if (part == 0) {
            if (token.length() != 1 || SORTS.indexOf(token) < 0) {
                return 1;
            }
            if (t.all.size() == 5) {
                return 3;
            }
            Office o = make(SORTS.indexOf(token) + 1);
            o.number = t.all.size();
            t.all.add(o);
            return 0;
        }
        if (part % 2 == 0) {
            return token.equals(part == 6 ? ";" : ",") ? 0 : 1;
        }
        if (!number) {
            return 1;
        }
        int v = Integer.parseInt(token);
        Office o = t.all.get(t.all.size() - 1);
        if (part == 1) {
            o.land = v;
            return v > 9 ? 2 : 0;
        }
        if (part == 3) {
            o.height = v;
            return v > 20 ? 2 : 0;
        }
        o.files = v;
        return v > 60 ? 2 : 0;
    }

    int fault() {
        return fault;
    }

    private void act() {
        acts.push(s.twin());
        if (acts.size() > 24) {
            acts.removeLast();
        }
    }

    int undo() {
        if (acts.isEmpty()) {
            return STATE;
        }
        s = acts.pop();
        return acts.size();
    }

    int hours(int n) {
        if (s == null) {
            return STATE;
        }
        if (not(n, 1, 24)) {
            return BAD;
        }
        if (s.hour + n > 999) {
            return FULL;
        }
        for (int i = 0; i < n; i++) {
            act();
            s.pass();
        }
        return (int) s.all.stream().filter(o -> o.height > 0).count();
    }

    int burn(int office, int n) {
        if (noOffice(office) || not(n, 1, 20)) {
            return BAD;
        }
        if (s.all.get(office).files < n) {
            return STATE;
        }
        act();
        for (int i = 0; i < n; i++) {
            s.all.get(office).burnOne();
        }
        return s.all.get(office).height;
    }

    int send(int from, int to, int n) {
        if (noOffice(from) || noOffice(to) || from == to || not(n, 1, 60)) {
            return BAD;
        }
        if (s.all.get(from).land != s.all.get(to).land || s.all.get(from).files < n) {
            return STATE;
        }
        if (s.all.get(to).files + n > 99) {
            return FULL;
        }
        act();
        s.all.get(from).files -= n;
        s.all.get(to).files += n;
        return s.all.get(to).files;
    }

    int wind(int band, int n) {
        if (s == null) {
            return STATE;
        }
        if (not(band, 0, 3) || not(n, 0, 4)) {
            return BAD;
        }
        act();
        int was = s.winds[band];
        s.winds[band] = n;
        return was;
    }

    int office(int office, int what) {
        if (noOffice(office) || not(what, 0, 5)) {
            return BAD;
        }
        Office o = s.all.get(office);
        int band = o.height < 6 ? 0 : o.height < 11 ? 1 : o.height < 16 ? 2 : 3;
        return new int[] {o.land, o.height, o.files, o.burnt, band, o.lift()}[what];
    }

    int land(int land) {
        if (s == null) {
            return STATE;
        }
        if (not(land, 0, 9)) {
            return BAD;
        }
        return s.all.stream().filter(o -> o.land == land).mapToInt(o -> 1 << o.number).sum();
    }

    int ahead(int office, int n, int what) {
        if (noOffice(office) || not(n, 0, 60) || not(what, 0, 1)) {
            return BAD;
        }
        State t = s.twin();
        for (int i = 0; i < n; i++) {
            t.pass();
        }
        return what == 0 ? t.all.get(office).land : t.all.get(office).height;
    }

    int down(int office) {
        if (noOffice(office)) {
            return BAD;
        }
        for (int n = 0; n <= 60; n++) {
            if (ahead(office, n, 1) == 0) {
                return n;
            }
        }
        return NONE;
    }

    int meet(int office, int other) {
        if (noOffice(office) || noOffice(other) || office == other) {
            return BAD;
        }
        for (int n = 0; n <= 60; n++) {
            if (ahead(office, n, 0) == ahead(other, n, 0) && ahead(office, n, 1) == ahead(other, n, 1)) {
                return n;
            }
        }
        return NONE;
    }

    int over(int land, int n) {
        if (s == null) {
            return STATE;
        }
        if (not(land, 0, 9) || not(n, 0, 60)) {
            return BAD;
        }
        State t = s.twin();
        for (int i = 0; i < n; i++) {
            t.pass();
        }
        return (int) t.in(land);
    }

    /** Rows in their order, with a growing sum; a row that cannot be completed is left at once. */
    int above(int office, int land, int n, int h, int k) {
        if (noOffice(office) || not(land, 0, 9) || not(n, 1, 12) || not(h, 0, 20) || k < -1) {
            return BAD;
        }
        Office o = s.all.get(office);
        for (int sum = 0; sum <= Math.min(3 * n, o.files); sum++) {
            int[] row = new int[n];
            dead = new boolean[n + 1][10][21][37];
            if (completes(o.twin(), row, 0, sum, land, h)) {
                return k == -1 ? sum : k < n ? row[k] : NONE;
            }
        }
        return NONE;
    }

    private boolean[][][][] dead;

    private boolean completes(Office o, int[] row, int at, int left, int land, int h) {
        if (at == row.length) {
            return left == 0 && o.land == land && o.height >= h;
        }
        if (dead[at][o.land][o.height][left]) {
            return false;
        }
        for (int sheets = 0; sheets <= Math.min(3, left); sheets++) {
            Office next = o.twin();
            for (int i = 0; i < sheets; i++) {
                next.burnOne();
            }
            next.hour(s.winds, s.sinks);
            row[at] = sheets;
            if (completes(next, row, at + 1, left - sheets, land, h)) {
                return true;
            }
        }
        dead[at][o.land][o.height][left] = true;
        return false;
    }

    int petition(int land, int row, int i, int n) {
        if (s == null) {
            return STATE;
        }
        if (not(land, 0, 9) || not(row, 0, 7) || not(n, 1, 8)) {
            return BAD;
        }
        int f = look(row, i, n);
        if (f != 0) {
            return finding(f);
        }
        Deque<Integer> readers = new ArrayDeque<>();
        for (int item : Arrays.copyOfRange(rows[row], i, i + n)) {
            if (noOffice(item)) {
                return BAD;
            }
            readers.add(item);
        }
        State t = s.twin();
        for (int gone = 0; gone <= 60; gone++) {
            while (!readers.isEmpty() && t.all.get(readers.peek()).land == land && t.all.get(readers.peek()).height < 6) {
                readers.poll();
            }
            if (readers.isEmpty()) {
                return plain(gone);
            }
            t.pass();
        }
        return plain(NONE);
    }

    int ash(int office, int row, int i, int n, int k) {
        if (noOffice(office) || not(row, 0, 7) || not(n, 1, 6) || k < -1) {
            return BAD;
        }
        int f = look(row, i, n);
        if (f != 0) {
            return finding(f);
        }
        int ways = 0;
        int first = -1;
        for (int code = 0; code < 1 << 2 * n; code++) {
            if (burnsSo(office, code, row, i, n)) {
                ways++;
                first = first < 0 ? code : first;
            }
        }
        if (k == -1) {
            return plain(ways);
        }
        return plain(ways == 0 || k >= n ? NONE : first >> 2 * (n - 1 - k) & 3);
    }

    /** A row of sheets is told by the base-4 figures of code, the first hour's the highest. */
    private boolean burnsSo(int office, int code, int row, int i, int n) {
        Office o = s.all.get(office).twin();
        for (int j = 0; j < n; j++) {
            for (int c = code >> 2 * (n - 1 - j) & 3; c > 0; c--) {
                o.burnOne();
            }
            o.hour(s.winds, s.sinks);
            if (o.height != rows[row][i + j]) {
                return false;
            }
        }
        return true;
    }

    int who(int office, int row, int i, int n, int sheets) {
        if (noOffice(office) || not(row, 0, 7) || not(n, 1, 12) || not(sheets, 0, 20)) {
            return BAD;
        }
        int f = look(row, i, n);
        if (f != 0) {
            return finding(f);
        }
        int bits = 0;
        for (int kind = 1; kind <= 5; kind++) {
            Office o = make(kind);
            o.height = s.all.get(office).height;
            for (int c = 0; c < sheets; c++) {
                o.burnOne();
            }
            boolean so = true;
            for (int j = 0; j < n; j++) {
                o.hour(s.winds, s.sinks);
                so &= o.height == rows[row][i + j];
            }
            bits |= so ? 1 << kind : 0;
        }
        return plain(bits);
    }

    int rule(int n, int what) {
        if (s == null) {
            return STATE;
        }
        if (not(n, 1, 60) || not(what, 0, 1)) {
            return BAD;
        }
        int best = -1;
        int most = -1;
        for (int land = 0; land <= 9; land++) {
            int sum = 0;
            for (int j = 1; j <= n; j++) {
                sum += over(land, j);
            }
            if (sum > most) {
                most = sum;
                best = land;
            }
        }
        return what == 0 ? best : most;
    }

    private int up(int office, int files) {
        Office o = s.all.get(office).twin();
        o.files = files;
        int hours = 0;
        while (o.height > 0 && hours < 99) {
            if (o.height <= s.sinks && o.files > 0) {
                o.burnOne();
            }
            o.hour(s.winds, s.sinks);
            hours += o.height > 0 ? 1 : 0;
        }
        return hours;
    }

    int lasts(int office) {
        return noOffice(office) ? BAD : up(office, s.all.get(office).files);
    }

    int kept(int office, int n) {
        if (noOffice(office) || not(n, 1, 24)) {
            return BAD;
        }
        for (int files = 0; files <= 60; files++) {
            if (up(office, files) >= n) {
                return files;
            }
        }
        return NONE;
    }

    long turned(int office, int land, int n, int p, int what) {
        if (noOffice(office) || not(land, 0, 9) || not(n, 1, 12) || not(p, 0, 10) || not(what, 0, 1)) {
            return BAD;
        }
        BigInteger above = BigInteger.ZERO;
        for (int mask = 0; mask < 16; mask++) {
            State t = s.twin();
            long odds = 1;
            for (int band = 0; band < 4; band++) {
                boolean turns = (mask & 1 << band) != 0;
                t.winds[band] = turns ? 4 - t.winds[band] : t.winds[band];
                odds *= turns ? p : 10 - p;
            }
            for (int i = 0; i < n; i++) {
                t.pass();
            }
            above = t.all.get(office).land == land ? above.add(BigInteger.valueOf(odds)) : above;
        }
        BigInteger below = BigInteger.valueOf(10000);
        BigInteger both = above.gcd(below);
        return (what == 0 ? above : below).divide(both).longValue();
    }

    int drawn(int n, int seed, int what) {
        if (s == null) {
            return STATE;
        }
        if (not(n, 0, 60) || not(seed, 1, 999999) || not(what, 0, 1)) {
            return BAD;
        }
        State t = s.twin();
        BigInteger x = BigInteger.valueOf(seed);
        int sum = 0;
        for (int i = 0; i < n; i++) {
            x = x.multiply(BigInteger.valueOf(16807)).mod(BigInteger.valueOf(2147483647));
            Office o = t.all.get(x.mod(BigInteger.valueOf(t.all.size())).intValue());
            for (int c = x.mod(BigInteger.valueOf(4)).intValue(); c > 0 && o.files > 0; c--) {
                o.burnOne();
                sum++;
            }
            t.pass();
        }
        return what == 0 ? sum : t.all.stream().mapToInt(o -> o.land).sum();
    }

    int image(int k) {
        if (not(k, 0, 1)) {
            return BAD;
        }
        if (s == null) {
            return STATE;
        }
        images[k] = s.twin();
        return 1;
    }

    int restore(int k) {
        if (not(k, 0, 1)) {
            return BAD;
        }
        if (images[k] == null) {
            return STATE;
        }
        s = images[k].twin();
        acts.clear();
        return 1;
    }

    int kind(int one) {
        return noOffice(one) ? BAD : Arrays.asList(KINDS).indexOf(s.all.get(one).getClass());
    }

    int as(int one, int kind) {
        if (noOffice(one) || not(kind, 0, 5)) {
            return BAD;
        }
        return KINDS[kind].isInstance(s.all.get(one)) ? plain(one) : finding(3);
    }

    int ask(int one, int what) {
        if (noOffice(one) || not(what, 0, 1)) {
            return BAD;
        }
        trace = new ArrayList<>();
        Office o = s.all.get(one);
        return what == 0 ? o.size(trace) : o.mark(trace);
    }

    int trace(int i) {
        return i >= 0 && i < Math.min(16, trace.size()) ? trace.get(i) : NONE;
    }

    int count(int what) {
        switch (what) {
            case 0: return (int) Arrays.stream(rows).filter(r -> r != null).count();
            case 1: return s == null ? 0 : s.all.size();
            case 2: return s == null ? 0 : s.sinks;
            case 3: return s == null ? 0 : s.hour;
            case 4: return s == null ? 0 : s.all.stream().mapToInt(o -> o.burnt).sum();
            case 5: return s == null ? 0 : s.all.stream().filter(o -> o.height > 0).mapToInt(o -> 1 << o.number).sum();
            case 6: return acts.size();
            case 7: return tape.length();
            default: return BAD;
        }
    }

    int status() {
        return status;
    }
}

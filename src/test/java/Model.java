import java.util.ArrayList;
import java.util.Arrays;
import java.util.List;
import java.util.regex.Matcher;
import java.util.regex.Pattern;
import java.util.stream.IntStream;

/**
 * A second telling of the document, as near to its words as can be, with no care for speed or room.
 * Every question about what would be is answered by playing a copy; nothing is shared with the program.
 */
public final class Model {
    private static final List<String> NAMES = List.of("rod", "copper", "kite", "oak", "cathedral", "poacher");
    private static final int[] CLOUD_LEAST = {0, 0, -1, 0, 20};
    private static final int[] CLOUD_MOST = {15, 99, 1, 50, 99};

    private static final class Finding extends RuntimeException {
        private static final long serialVersionUID = 1;
        final int which;

        Finding(int which) {
            super(null, null, false, false);
            this.which = which;
        }
    }

    private static final class Told extends RuntimeException {
        private static final long serialVersionUID = 1;
        final int place;

        Told(int place) {
            super(null, null, false, false);
            this.place = place;
        }
    }

    private static final class One {
        int kind;
        int place;
        int height = 10;
        int from;
        int to;
        int bill;
        int bolts;

        One copy() {
            One o = new One();
            o.kind = kind;
            o.place = place;
            o.height = height;
            o.from = from;
            o.to = to;
            o.bill = bill;
            o.bolts = bolts;
            return o;
        }

        int draws(int asKind, int cloudPlace) {
            int d = Math.abs(cloudPlace - place);
            int v = switch (asKind) {
                case 0 -> height - 4 * d;
                case 1 -> draws(0, cloudPlace) + 8;
                case 2 -> draws(0, cloudPlace) + height;
                case 3 -> draws(0, cloudPlace) - 3;
                case 4 -> draws(1, cloudPlace) + 20;
                default -> draws(2, cloudPlace) - 10;
            };
            return v < 0 ? 0 : v;
        }

        boolean paid(int hour) {
            for (int h = from; h != to; h = (h + 1) % 24) {
                if (h == hour % 24) {
                    return true;
                }
            }
            return false;
        }

        int paidHours() {
            return (int) IntStream.range(0, 24).filter(this::paid).count();
        }

        int owes(int asKind, int charge, int hour) {
            return switch (asKind) {
                case 0 -> paid(hour) ? charge : 0;
                case 1 -> owes(0, charge, hour) - owes(0, charge, hour) / 10;
                case 2 -> owes(0, charge, hour);
                case 4 -> owes(1, charge, hour) / 2;
                default -> 0;
            };
        }
    }

    private static final class Land {
        int[] cloud = {0, 0, 1, 20, 60};
        int hour;
        int strays;
        int z = 1;
        List<One> rods = new ArrayList<>();

        Land copy() {
            Land l = new Land();
            l.cloud = cloud.clone();
            l.hour = hour;
            l.strays = strays;
            l.z = z;
            for (One o : rods) {
                l.rods.add(o.copy());
            }
            return l;
        }

        int struck(int place) {
            int most = rods.stream().mapToInt(o -> o.draws(o.kind, place)).max().orElse(0);
            for (int i = 0; i < rods.size() && most > 0; i++) {
                if (rods.get(i).draws(rods.get(i).kind, place) == most) {
                    return i;
                }
            }
            return -1;
        }

        boolean bolt() {
            return cloud[1] >= cloud[4];
        }

        void hour() {
            if (bolt()) {
                int who = struck(cloud[0]);
                int owed = 0;
                if (who != -1) {
                    One o = rods.get(who);
                    o.bolts = Math.min(99999, o.bolts + 1);
                    owed = o.owes(o.kind, cloud[1], hour);
                    o.bill = Math.min(99999, o.bill + owed);
                }
                if (owed == 0) {
                    strays = Math.min(99999, strays + cloud[1]);
                }
                cloud[1] = 0;
            }
            if (cloud[0] == 0 && cloud[2] == -1) {
                cloud[2] = 1;
            } else if (cloud[0] == 15 && cloud[2] == 1) {
                cloud[2] = -1;
            } else {
                cloud[0] += cloud[2];
            }
            cloud[1] = Math.min(99, cloud[1] + cloud[3]);
            hour++;
        }

        Land on(int n) {
            Land l = copy();
            for (int i = 0; i < n; i++) {
                l.hour();
            }
            return l;
        }

        int bills() {
            return rods.stream().mapToInt(o -> o.bill).sum();
        }
    }

    private Land land = new Land();
    private Land kept;
    private final List<Integer> tape = new ArrayList<>();
    private final int[] bits = new int[4];
    private final long[][] sheets = new long[4][];
    private final int[] told = new int[7];

    /** Counts a finding that an act ends with. */
    int found(RuntimeException e) {
        int which = ((Finding) e).which;
        told[which]++;
        return -1000000001 - which;
    }

    private static void need(boolean isSo, int finding) {
        if (!isSo) {
            throw new Finding(finding);
        }
    }

    private static void within(int v, int least, int most) {
        need(v >= least && v <= most, 0);
    }

    private One one(int rod) {
        within(rod, 0, land.rods.size() - 1);
        return land.rods.get(rod);
    }

    public int cloud(int what, int v) {
        within(what, 0, 4);
        within(v, CLOUD_LEAST[what], CLOUD_MOST[what]);
        int was = land.cloud[what];
        land.cloud[what] = v;
        return was;
    }

    public int cloudOf(int what) {
        within(what, 0, 4);
        return land.cloud[what];
    }

    public int rod(int kind, int place) {
        within(kind, 0, 5);
        within(place, 0, 15);
        need(land.rods.size() < 8, 1);
        One o = new One();
        o.kind = kind;
        o.place = place;
        land.rods.add(o);
        return land.rods.size() - 1;
    }

    public int of(int rod, int what) {
        One o = one(rod);
        within(what, 0, 9);
        int[] all = {o.kind, o.place, o.height, o.from, o.to, o.bill, o.bolts, o.draws(o.kind, land.cloud[0]),
            o.owes(o.kind, land.cloud[1], land.hour), o.paid(land.hour) ? 1 : 0};
        return all[what];
    }

    public int set(int rod, int what, int v) {
        One o = one(rod);
        within(what, 1, 2);
        within(v, 0, what == 1 ? 15 : 60);
        int was = what == 1 ? o.place : o.height;
        if (what == 1) {
            o.place = v;
        } else {
            o.height = v;
        }
        return was;
    }

    public int pays(int rod, int from, int to) {
        One o = one(rod);
        within(from, 0, 23);
        within(to, 0, 23);
        o.from = from;
        o.to = to;
        return o.paidHours();
    }

    public int turn(int rod, int kind) {
        One o = one(rod);
        within(kind, 0, 5);
        int was = o.kind;
        o.kind = kind;
        return was;
    }

    public int as(int rod, int kind) {
        One o = one(rod);
        within(kind, 0, 5);
        List<Integer> may = switch (o.kind) {
            case 0 -> List.of(0);
            case 1 -> List.of(1, 0);
            case 2 -> List.of(2, 0);
            case 3 -> List.of(3, 0);
            case 4 -> List.of(4, 1, 0);
            default -> List.of(5, 2, 0);
        };
        need(may.contains(kind), 2);
        return o.height;
    }

    public int down(int rod) {
        one(rod);
        return land.rods.remove(rod).bill;
    }

    public int settle(int rod) {
        int was = one(rod).bill;
        one(rod).bill = 0;
        return was;
    }

    public int hours(int n) {
        within(n, 1, 100);
        need(land.hour + n <= 9999, 4);
        land = land.on(n);
        return land.bills();
    }

    public int days(int n) {
        within(n, 1, 4);
        need(land.hour + 24 * n <= 9999, 4);
        for (int i = 0; i < n; i++) {
            land.z = land.z * 1103515245 + 12345;
            land.cloud[2] = (land.z >>> 8) % 3 - 1;
            land = land.on(24);
        }
        return land.bills();
    }

    public int seed(int v) {
        int was = land.z;
        land.z = v;
        return was;
    }

    public int now(int what) {
        within(what, 0, 5);
        int set = 0;
        for (int i = 0; i < land.rods.size(); i++) {
            set += land.rods.get(i).paid(land.hour) ? 1 << i : 0;
        }
        int[] all = {land.hour, land.hour % 24, land.bills(), land.rods.stream().mapToInt(o -> o.bolts).sum(), land.strays, set};
        return all[what];
    }

    public int on(int rod, int n, int what) {
        one(rod);
        within(n, 0, 100);
        within(what, 0, 1);
        One o = land.on(n).rods.get(rod);
        return what == 0 ? o.bill : o.bolts;
    }

    private int untilBolt() {
        for (int i = 0; i < 100; i++) {
            if (land.on(i).bolt()) {
                return i;
            }
        }
        return -1;
    }

    public int next(int what) {
        within(what, 0, 3);
        int i = untilBolt();
        need(i >= 0, 3);
        Land then = land.on(i);
        int[] all = {i, then.struck(then.cloud[0]), then.cloud[1], then.cloud[0]};
        return all[what];
    }

    public int struck(int place) {
        within(place, 0, 15);
        return land.struck(place);
    }

    public int reach(int rod) {
        one(rod);
        return IntStream.range(0, 16).filter(p -> land.struck(p) == rod).map(p -> 1 << p).sum();
    }

    /** For each height, whether the next bolt strikes; told by whose bolts are more in the end. */
    private boolean[] byHeight(int rod) {
        boolean[] hit = new boolean[61];
        int i = untilBolt();
        for (int h = 0; h <= 60 && i >= 0; h++) {
            Land l = land.copy();
            l.rods.get(rod).height = h;
            hit[h] = l.on(i + 1).rods.get(rod).bolts > l.rods.get(rod).bolts;
        }
        return hit;
    }

    public int steals(int rod) {
        one(rod);
        boolean[] hit = byHeight(rod);
        int h = IntStream.rangeClosed(0, 60).filter(i -> hit[i]).min().orElse(-1);
        need(h >= 0, 3);
        return h;
    }

    public int ducks(int rod) {
        one(rod);
        boolean[] hit = byHeight(rod);
        int h = IntStream.rangeClosed(0, 60).filter(i -> !hit[i]).max().orElse(-1);
        need(h >= 0, 3);
        return h;
    }

    public int place(int rod, int n) {
        one(rod);
        within(n, 0, 100);
        int[] bolts = new int[16];
        for (int p = 0; p < 16; p++) {
            Land l = land.copy();
            l.rods.get(rod).place = p;
            bolts[p] = l.on(n).rods.get(rod).bolts;
        }
        int most = Arrays.stream(bolts).max().getAsInt();
        return IntStream.range(0, 16).filter(p -> bolts[p] == most).min().getAsInt();
    }

    public int thief(int rod, int n) {
        one(rod);
        within(n, 0, 60);
        int base = land.on(n).rods.get(rod).bolts;
        int[] bolts = new int[land.rods.size()];
        for (int j = 0; j < bolts.length; j++) {
            Land l = land.copy();
            One mine = l.rods.get(rod);
            l.rods.remove(j);
            int at = l.rods.indexOf(mine);
            bolts[j] = at < 0 ? -1 : l.on(n).rods.get(at).bolts;
        }
        int most = Arrays.stream(bolts).max().getAsInt();
        need(most > base, 3);
        return IntStream.range(0, bolts.length).filter(j -> bolts[j] == most).min().getAsInt();
    }

    public int kind(int rod, int n) {
        one(rod);
        within(n, 0, 60);
        int[] bolts = new int[6];
        int[] bills = new int[6];
        for (int k = 0; k < 6; k++) {
            Land l = land.copy();
            l.rods.get(rod).kind = k;
            One o = l.on(n).rods.get(rod);
            bolts[k] = o.bolts;
            bills[k] = o.bill;
        }
        int most = Arrays.stream(bolts).max().getAsInt();
        int least = IntStream.range(0, 6).filter(k -> bolts[k] == most).map(k -> bills[k]).min().getAsInt();
        return IntStream.range(0, 6).filter(k -> bolts[k] == most && bills[k] == least).min().getAsInt();
    }

    public int clocks(int rod, int n) {
        one(rod);
        within(n, 0, 100);
        int set = 0;
        for (int i = 0; i < n; i++) {
            Land before = land.on(i);
            if (before.on(1).rods.get(rod).bolts > before.rods.get(rod).bolts) {
                set |= 1 << before.hour % 24;
            }
        }
        return set;
    }

    private int cover(int rod, int n, boolean isFrom) {
        int set = clocks(rod, n);
        for (int length = 0; length <= 24; length++) {
            for (int from = 0; from < 24; from++) {
                int row = 0;
                for (int i = 0; i < length; i++) {
                    row |= 1 << (from + i) % 24;
                }
                if ((row & set) == set) {
                    return isFrom ? from : length;
                }
            }
        }
        return -1;
    }

    public int covers(int rod, int n) {
        return cover(rod, n, false);
    }

    public int from(int rod, int n) {
        return cover(rod, n, true);
    }

    public int strays(int n) {
        within(n, 0, 100);
        return land.on(n).strays;
    }

    private int[] allDraws() {
        return land.rods.stream().mapToInt(o -> o.draws(o.kind, land.cloud[0])).toArray();
    }

    public int fork(int rod, int part) {
        one(rod);
        within(part, 0, 1);
        int[] draws = allDraws();
        int below = Arrays.stream(draws).sum();
        int above = draws[rod] * land.cloud[1];
        if (below == 0 || above == 0) {
            return part;
        }
        for (int d = below; d > 1; d--) {
            if (above % d == 0 && below % d == 0) {
                above /= d;
                below /= d;
            }
        }
        return part == 0 ? above : below;
    }

    public int share(int rod) {
        one(rod);
        int[] draws = allDraws();
        int sum = Arrays.stream(draws).sum();
        if (sum == 0) {
            return 0;
        }
        int[] has = new int[draws.length];
        int[] rest = new int[draws.length];
        for (int i = 0; i < draws.length; i++) {
            has[i] = draws[i] * land.cloud[1] / sum;
            rest[i] = draws[i] * land.cloud[1] % sum;
        }
        for (int left = land.cloud[1] - Arrays.stream(has).sum(); left > 0; left--) {
            int best = 0;
            for (int i = 1; i < rest.length; i++) {
                best = rest[i] > rest[best] ? i : best;
            }
            has[best]++;
            rest[best] = -1;
        }
        return has[rod];
    }

    public int feed(int bytes, int n) {
        within(n, 1, 4);
        need(tape.size() + n <= 120, 1);
        int[] four = {bytes >>> 24, bytes >>> 16 & 255, bytes >>> 8 & 255, bytes & 255};
        for (int i = 4 - n; i < 4; i++) {
            tape.add(four[i]);
        }
        return tape.size();
    }

    public int wipe() {
        int had = tape.size();
        tape.clear();
        return had;
    }

    private static final class Words {
        final List<String> tokens = new ArrayList<>();
        final List<Integer> places = new ArrayList<>();
        int at;

        Words(String text) {
            Matcher m = Pattern.compile("[a-z]+|[0-9]+|[^ ]", Pattern.DOTALL).matcher(text);
            while (m.find()) {
                tokens.add(m.group());
                places.add(m.start());
            }
            tokens.add("");
            places.add(text.length());
        }

        String look() {
            return tokens.get(at);
        }

        void fault() {
            throw new Told(places.get(at));
        }

        boolean may(String word) {
            boolean is = look().equals(word);
            at += is ? 1 : 0;
            return is;
        }

        void must(String word) {
            if (!may(word)) {
                fault();
            }
        }

        int number(int least, int most) {
            if (!look().matches("0*[0-9]{1,3}") || Integer.parseInt(look().replaceFirst("^0+(?=.)", "")) < least
                || Integer.parseInt(look().replaceFirst("^0+(?=.)", "")) > most) {
                fault();
            }
            return Integer.parseInt(tokens.get(at++).replaceFirst("^0+(?=.)", ""));
        }
    }

    private static void item(Words w, Land l) {
        int kind = NAMES.indexOf(w.look());
        if (kind >= 0) {
            if (l.rods.size() == 8) {
                w.fault();
            }
            w.at++;
            w.must("at");
            One o = new One();
            o.kind = kind;
            o.place = w.number(0, 15);
            if (w.may("high")) {
                o.height = w.number(0, 60);
            }
            if (w.may("from")) {
                o.from = w.number(0, 23);
                w.must("to");
                o.to = w.number(0, 23);
            }
            l.rods.add(o);
        } else if (w.may("cloud")) {
            l.cloud[0] = w.number(0, 15);
            if (w.may("charge")) {
                l.cloud[1] = w.number(0, 99);
            }
            l.cloud[2] = w.may("left") ? -1 : w.may("right") ? 1 : w.may("still") ? 0 : l.cloud[2];
        } else if (w.may("grows")) {
            l.cloud[3] = w.number(0, 50);
        } else if (w.may("breaks")) {
            l.cloud[4] = w.number(20, 99);
        } else {
            w.fault();
        }
    }

    public int plain() {
        StringBuilder text = new StringBuilder();
        for (int b : tape) {
            text.append((char) b);
        }
        tape.clear();
        Words w = new Words(text.toString());
        Land l = land.copy();
        int items = 0;
        try {
            do {
                item(w, l);
                items++;
            } while (w.may(";"));
            if (!w.look().isEmpty()) {
                w.fault();
            }
        } catch (Told fault) {
            return -1 - fault.place;
        }
        land = l;
        return items;
    }

    public int sheet(int s, int newBits, int n) {
        within(s, 0, 3);
        need(List.of(0, 8, 16, 64).contains(newBits), 0);
        need(n >= 0, 6);
        need(n <= 40, 0);
        bits[s] = newBits;
        sheets[s] = newBits == 0 ? null : new long[n];
        return newBits == 0 ? 0 : n;
    }

    private long[] numbers(int s) {
        within(s, 0, 3);
        need(sheets[s] != null, 5);
        return sheets[s];
    }

    private void put(int s, int i, long v) {
        sheets[s][i] = v << 64 - bits[s] >> 64 - bits[s];
    }

    public long write(int s, int i, long v) {
        long[] row = numbers(s);
        within(i, 0, row.length - 1);
        long was = row[i];
        put(s, i, v);
        return was;
    }

    public int copy(int s, int from, int t, int to, int n) {
        within(s, 0, 3);
        within(t, 0, 3);
        long[] a = numbers(s).clone();
        long[] b = numbers(t);
        need(bits[s] == bits[t], 2);
        need(from >= 0 && to >= 0 && n >= 0, 0);
        need((long) from + n <= a.length && (long) to + n <= b.length, 0);
        for (int i = 0; i < n; i++) {
            b[to + i] = a[from + i];
        }
        return n;
    }

    public int lays(int s) {
        long[] row = numbers(s);
        int came = 0;
        for (int i = 0; i < row.length; i++) {
            if (i < land.rods.size() && row[i] >= 0 && row[i] <= 60) {
                land.rods.get(i).height = (int) row[i];
                came++;
            }
        }
        return came;
    }

    public int book(int s, int rod) {
        long[] row = numbers(s);
        one(rod);
        for (int i = 0; i < row.length; i++) {
            put(s, i, land.on(i).rods.get(rod).bolts);
        }
        return row.length;
    }

    public int read(int s, int rod) {
        long[] row = numbers(s);
        one(rod);
        int pairs = 0;
        for (int pair = 0; pair < 1600; pair++) {
            Land l = land.copy();
            l.cloud[1] = pair / 16;
            l.cloud[0] = pair % 16;
            boolean isSo = true;
            for (int i = 0; i < row.length && isSo; i++) {
                isSo = l.rods.get(rod).bolts == row[i];
                l.hour();
            }
            pairs += isSo ? 1 : 0;
        }
        return pairs;
    }

    public int image() {
        kept = land.copy();
        return 1;
    }

    public int undo() {
        need(kept != null, 3);
        land = kept.copy();
        return land.rods.size();
    }

    public int tear() {
        int had = kept == null ? 0 : 1;
        kept = null;
        return had;
    }

    public int count(int what) {
        within(what, 0, 3);
        int[] all = {land.rods.size(), tape.size(), land.rods.stream().mapToInt(o -> o.height).sum(),
            land.rods.stream().mapToInt(One::paidHours).sum()};
        return all[what];
    }

    public int status(int which) {
        within(which, -1, 6);
        return which < 0 ? Arrays.stream(told).sum() : told[which];
    }
}

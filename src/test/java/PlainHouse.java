import java.util.ArrayList;
import java.util.Comparator;
import java.util.List;
import java.util.TreeSet;
import java.util.stream.Collectors;
import java.util.stream.IntStream;

/** A second, plain writing of the document, with lists and objects, that ModelTest holds the program against. */
final class PlainHouse {
    static final int NONE = -1, NEVER = 99999, UNKNOWN = -1000000001, OUTSIDE = -1000000002, NOT = -1000000003, FULL = -1000000004;

    enum Is { IN, OUT, KEPT, ON_ITS_WAY, LOST }

    static final class Copy {
        int title, branch, day = NONE, reader = NONE;
        Is is = Is.IN;
        Hold hold;
    }

    static final class Hold {
        int number, reader, title, branch, need, made;
    }

    /** All that images and undoing bring back. */
    static final class All {
        int now, term = 14, patience = 3, closed = 64, next;
        List<Copy> copies = new ArrayList<>();
        List<Hold> holds = new ArrayList<>();
        TreeSet<String> trips = new TreeSet<>();

        All twin() {
            All t = new All();
            t.now = now;
            t.term = term;
            t.patience = patience;
            t.closed = closed;
            t.next = next;
            t.trips.addAll(trips);
            for (Hold h : holds) {
                Hold g = new Hold();
                g.number = h.number;
                g.reader = h.reader;
                g.title = h.title;
                g.branch = h.branch;
                g.need = h.need;
                g.made = h.made;
                t.holds.add(g);
            }
            for (Copy c : copies) {
                Copy d = new Copy();
                d.title = c.title;
                d.branch = c.branch;
                d.day = c.day;
                d.reader = c.reader;
                d.is = c.is;
                d.hold = c.hold == null ? null : t.holds.get(holds.indexOf(c.hold));
                t.copies.add(d);
            }
            return t;
        }
    }

    private All a = new All();
    private List<All> past = new ArrayList<>();
    private final All[] images = new All[2];
    private boolean lots;
    private long x;

    private void deed() {
        if (lots) {
            return;
        }
        past.add(a.twin());
        if (past.size() > 8) {
            past.remove(0);
        }
    }

    private static boolean out(int n, int least, int most) {
        return n < least || n > most;
    }

    private Copy copyWith(Hold h) {
        return a.copies.stream().filter(c -> c.hold == h).findFirst().orElse(null);
    }

    private List<Hold> row(int title) {
        return a.holds.stream().filter(h -> h.title == title && copyWith(h) == null)
            .sorted(Comparator.comparingInt((Hold h) -> -h.need).thenComparingInt(h -> h.number)).collect(Collectors.toList());
    }

    private static int way(int p, int q) {
        return p == q ? 0 : (p + q) % 2 == 0 ? 2 : 1;
    }

    private void in(Copy c, int branch) {
        c.is = Is.IN;
        c.branch = branch;
        c.hold = null;
        c.reader = NONE;
        c.day = NONE;
    }

    private void served() {
        for (int t = 0; t < 6; t++) {
            int title = t;
            while (true) {
                List<Hold> row = row(title);
                List<Copy> in = a.copies.stream().filter(c -> c.title == title && c.is == Is.IN).collect(Collectors.toList());
                if (row.isEmpty() || in.isEmpty()) {
                    break;
                }
                Hold h = row.get(0);
                Copy c = in.stream().min(Comparator.comparingInt(k -> way(k.branch, h.branch))).get();
                c.hold = h;
                if (c.branch == h.branch) {
                    c.is = Is.KEPT;
                    c.day = a.now + a.patience;
                } else {
                    c.is = Is.ON_ITS_WAY;
                    c.day = a.now + way(c.branch, h.branch);
                    a.trips.add(c.branch + ">" + h.branch);
                    c.branch = h.branch;
                }
            }
        }
    }

    private void dayPasses() {
        a.now++;
        a.trips.clear();
        for (Copy c : a.copies) {
            if (c.is == Is.ON_ITS_WAY && c.day <= a.now) {
                c.is = Is.KEPT;
                c.day = a.now + a.patience;
            } else if (c.is == Is.KEPT && c.day < a.now) {
                a.holds.remove(c.hold);
                in(c, c.branch);
            }
        }
        served();
    }

    private int openDay(int from) {
        return IntStream.range(from, from + 7).filter(d -> (a.closed & 1 << d % 7) == 0).findFirst().orElse(from);
    }

    private int step(Copy c) {
        return c.is != Is.OUT ? NONE : a.now <= c.day ? 0 : Math.min(4, 1 + (a.now - c.day - 1) / 7);
    }

    private List<Copy> outTo(int reader) {
        return a.copies.stream().filter(c -> c.is == Is.OUT && c.reader == reader).collect(Collectors.toList());
    }

    private int set(java.util.function.Predicate<Copy> wanted) {
        return IntStream.range(0, a.copies.size()).filter(i -> wanted.test(a.copies.get(i))).map(i -> 1 << i).sum();
    }

    private boolean noCopy(int copy) {
        return out(copy, 0, a.copies.size() - 1);
    }

    private Hold find(int hold) {
        return a.holds.stream().filter(h -> h.number == hold).findFirst().orElse(null);
    }

    int copy(int title, int branch) {
        if (out(title, 0, 5) || out(branch, 0, 3)) return UNKNOWN;
        if (a.copies.size() == 16) return FULL;
        deed();
        Copy c = new Copy();
        c.title = title;
        c.branch = branch;
        a.copies.add(c);
        served();
        return a.copies.size() - 1;
    }

    int lend(int copy, int reader) {
        if (noCopy(copy) || out(reader, 0, 9)) return UNKNOWN;
        Is is = a.copies.get(copy).is;
        if (is != Is.IN && !(is == Is.KEPT && a.copies.get(copy).hold.reader == reader) || outTo(reader).size() >= 3) return NOT;
        deed();
        Copy c = a.copies.get(copy);
        a.holds.remove(c.hold);
        c.hold = null;
        c.is = Is.OUT;
        c.reader = reader;
        c.day = openDay(a.now + a.term);
        return c.day;
    }

    int giveBack(int copy, int branch) {
        if (noCopy(copy) || out(branch, 0, 3)) return UNKNOWN;
        if (a.copies.get(copy).is != Is.OUT && a.copies.get(copy).is != Is.LOST) return NOT;
        deed();
        Copy c = a.copies.get(copy);
        int step = c.is == Is.LOST ? 0 : step(c);
        in(c, branch);
        served();
        return step;
    }

    int renew(int copy) {
        if (noCopy(copy)) return UNKNOWN;
        if (a.copies.get(copy).is != Is.OUT || !row(a.copies.get(copy).title).isEmpty()) return NOT;
        deed();
        return a.copies.get(copy).day = openDay(a.now + a.term);
    }

    int lose(int copy) {
        if (noCopy(copy)) return UNKNOWN;
        if (a.copies.get(copy).is == Is.LOST) return NOT;
        deed();
        Copy c = a.copies.get(copy);
        int was = c.is.ordinal();
        in(c, c.branch);
        c.is = Is.LOST;
        served();
        return was;
    }

    int hold(int reader, int title, int branch, int need) {
        if (out(reader, 0, 9) || out(title, 0, 5) || out(branch, 0, 3)) return UNKNOWN;
        if (out(need, 0, 3)) return OUTSIDE;
        if (a.holds.stream().anyMatch(h -> h.reader == reader && h.title == title)) return NOT;
        if (outTo(reader).stream().anyMatch(c -> c.title == title)) return NOT;
        if (a.holds.size() == 12) return FULL;
        deed();
        Hold h = new Hold();
        h.number = a.next++;
        h.reader = reader;
        h.title = title;
        h.branch = branch;
        h.need = need;
        h.made = a.now;
        a.holds.add(h);
        served();
        return h.number;
    }

    int giveUp(int hold) {
        if (find(hold) == null) return UNKNOWN;
        deed();
        Hold h = find(hold);
        Copy c = copyWith(h);
        a.holds.remove(h);
        if (c != null) in(c, c.branch);
        served();
        return a.holds.size();
    }

    int pass(int n) {
        if (out(n, 1, 30)) return OUTSIDE;
        if (a.now + n > 9999) return NOT;
        deed();
        for (int i = 0; i < n; i++) dayPasses();
        return a.now;
    }

    int set(int what, int v) {
        if (out(what, 0, 2) || out(v, what == 2 ? 0 : 1, new int[] {60, 20, 127}[what])) return OUTSIDE;
        deed();
        int was = told(what + 1);
        if (what == 0) a.term = v;
        if (what == 1) a.patience = v;
        if (what == 2) a.closed = v;
        return was;
    }

    private int lot(int by) {
        x = x * 16807 % 2147483647;
        return (int) (x % by);
    }

    int drift(int n, int seed) {
        if (out(n, 1, 20) || out(seed, 1, 999999)) return OUTSIDE;
        deed();
        lots = true;
        x = seed;
        for (int i = 0; i < n; i++) {
            int what = lot(4);
            if (what == 0) hold(lot(10), lot(6), lot(4), lot(4));
            if (what == 1 && a.copies.size() > 0) lend(lot(a.copies.size()), lot(10));
            if (what == 2 && a.copies.size() > 0) giveBack(lot(a.copies.size()), lot(4));
            if (what == 3) dayPasses();
        }
        lots = false;
        return a.now;
    }

    int undo() {
        if (past.isEmpty()) return NOT;
        a = past.remove(past.size() - 1);
        return past.size();
    }

    int told(int what) {
        if (out(what, 0, 15)) return OUTSIDE;
        if (what >= 5 && what <= 9) return set(c -> c.is.ordinal() == what - 5);
        return switch (what) {
            case 0 -> a.now;
            case 1 -> a.term;
            case 2 -> a.patience;
            case 3 -> a.closed;
            case 4 -> a.copies.size();
            case 10 -> a.holds.size();
            case 11 -> (int) a.holds.stream().filter(h -> copyWith(h) == null).count();
            case 12 -> a.trips.size();
            case 13 -> set(c -> step(c) > 0);
            case 14 -> a.closed >> a.now % 7 & 1;
            default -> past.size();
        };
    }

    int copyOf(int copy, int what) {
        if (noCopy(copy)) return UNKNOWN;
        Copy c = a.copies.get(copy);
        return switch (what) {
            case 0 -> c.title;
            case 1 -> c.branch;
            case 2 -> c.is.ordinal();
            case 3 -> c.hold != null ? c.hold.number : c.reader;
            case 4 -> c.day;
            case 5 -> step(c);
            default -> OUTSIDE;
        };
    }

    int holdOf(int hold, int what) {
        Hold h = find(hold);
        if (h == null) return UNKNOWN;
        Copy c = copyWith(h);
        return switch (what) {
            case 0 -> h.reader;
            case 1 -> h.title;
            case 2 -> h.branch;
            case 3 -> h.need;
            case 4 -> h.made;
            case 5 -> c == null ? 0 : c.is == Is.KEPT ? 2 : 1;
            case 6 -> a.copies.indexOf(c);
            case 7 -> row(h.title).indexOf(h);
            case 8 -> c == null ? soon(h) : c.is == Is.KEPT ? a.now : c.day;
            default -> OUTSIDE;
        };
    }

    private int soon(Hold h) {
        List<Integer> days = new ArrayList<>();
        for (Copy c : a.copies) {
            if (c.title == h.title && c.is == Is.IN) days.add(a.now);
            if (c.title == h.title && c.is == Is.OUT) days.add(c.day > a.now ? c.day : a.now + 1);
            if (c.title == h.title && c.is == Is.KEPT) days.add(c.day + 1);
        }
        days.sort(null);
        int place = row(h.title).indexOf(h);
        return place < days.size() ? days.get(place) : NEVER;
    }

    int titleOf(int title, int what) {
        if (out(title, 0, 5)) return UNKNOWN;
        List<Hold> row = row(title);
        return switch (what) {
            case 0 -> set(c -> c.title == title);
            case 1 -> set(c -> c.title == title && c.is == Is.IN);
            case 2 -> row.size();
            case 3 -> row.isEmpty() ? NONE : row.get(0).number;
            case 4 -> row.stream().mapToInt(h -> a.now - h.made).max().orElse(0);
            default -> OUTSIDE;
        };
    }

    int readerOf(int reader, int what) {
        if (out(reader, 0, 9)) return UNKNOWN;
        return switch (what) {
            case 0 -> set(c -> outTo(reader).contains(c));
            case 1 -> (int) a.holds.stream().filter(h -> h.reader == reader).count();
            case 2 -> outTo(reader).stream().mapToInt(c -> 5 * Math.max(0, a.now - c.day)).sum();
            case 3 -> outTo(reader).stream().mapToInt(this::step).max().orElse(0);
            case 4 -> reader % 4;
            default -> OUTSIDE;
        };
    }

    int keep(int i) {
        if (out(i, 0, 1)) return UNKNOWN;
        images[i] = a.twin();
        past.clear();
        return a.now;
    }

    int goBack(int i) {
        if (out(i, 0, 1)) return UNKNOWN;
        if (images[i] == null) return NOT;
        a = images[i].twin();
        past.clear();
        return a.now;
    }
}

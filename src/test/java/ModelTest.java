import java.util.ArrayList;
import java.util.Arrays;
import java.util.HashSet;
import java.util.List;
import java.util.Random;
import java.util.Set;

/** Random calls on the class and on a slow model of the document, which tries everything out; answers must agree. */
public final class ModelTest {
    private static int wrong = 0;

    public static void main(String[] args) {
        long start = args.length > 0 ? Long.parseLong(args[0]) : 1;
        int runs = args.length > 1 ? Integer.parseInt(args[1]) : 30;
        for (int run = 0; run < runs && wrong == 0; run++) {
            play(new Random(start + run), start + run);
        }
        System.out.println(wrong == 0 ? "class and model agree" : "class and model differ");
        if (wrong != 0) {
            System.exit(1);
        }
    }

    private static void play(Random random, long run) {
        Caller caller = new Caller(random, new RolledStones(), new Model());
        List<String> told = new ArrayList<>();
        for (int call = 0; call < 500 && wrong == 0; call++) {
            caller.next(call);
            told.add(caller.call + " -> " + caller.got);
            if (caller.got != caller.due) {
                wrong++;
                System.out.println("run " + run + ", call " + call + ": " + caller.call + " answered " + caller.got
                        + ", due is " + caller.due);
                told.forEach(line -> System.out.println("  " + line));
            }
        }
    }

    /** Draws calls and makes them on both sides. */
    private static final class Caller {
        final Random random;
        final RolledStones x;
        final Model m;
        String call;
        long got;
        long due;
        final boolean close;

        Caller(Random random, RolledStones x, Model m) {
            this.random = random;
            this.x = x;
            this.m = m;
            this.close = random.nextBoolean();
        }

        /** Mostly a number below the bound, now and then one at or past its edges. */
        int some(int bound) {
            int luck = random.nextInt(60);
            if (luck == 0) return -1;
            if (luck == 1) return bound;
            if (luck == 2) return random.nextBoolean() ? Integer.MAX_VALUE : Integer.MIN_VALUE;
            if (luck == 3) return bound - 1;
            return random.nextInt(bound);
        }

        int behind() {
            return some(21) - 1;
        }

        /** Cells near one another on some fields, so that stones meet and fences are come to. */
        int cell() {
            if (close && random.nextInt(8) != 0) {
                return 12 * (3 + random.nextInt(5)) + 3 + random.nextInt(5);
            }
            return some(144);
        }

        /** Mostly a cell where some stone lies at some time. */
        int trodden() {
            if (m.stones.isEmpty() || random.nextInt(5) == 0) {
                return cell();
            }
            return m.lies(random.nextInt(m.stones.size()), random.nextInt(21) - 1);
        }

        int stone() {
            return random.nextInt(12) == 0 ? some(6) : some(Math.max(1, m.stones.size()));
        }

        void next(int turn) {
            if (turn < 60 && random.nextInt(4) != 0) {
                build(random.nextInt(11));
                return;
            }
            if (!pending.isEmpty() && random.nextInt(8) != 0) {
                book();
                return;
            }
            int kind = random.nextInt(36);
            if (kind >= 24 && kind <= 26 && random.nextInt(2) == 0) {
                found();
                return;
            }
            if (kind < 12) {
                if (random.nextInt(3) == 0) build(random.nextInt(11));
                else ask(12 + random.nextInt(24));
            } else {
                ask(kind);
            }
        }

        void build(int kind) {
            switch (kind) {
                case 0: case 1: { int s = some(5), c = cell(), w = random.nextInt(10) == 0 ? some(101) : 1 + random.nextInt(30);
                    set("stone(" + s + ", " + c + ", " + w + ")", x.stone(s, c, w), m.stone(s, c, w)); break; }
                case 2: case 3: case 4: { int c = cell(), f = some(4);
                    set("fence(" + c + ", " + f + ")", x.fence(c, f), m.fence(c, f)); break; }
                case 5: { int c = cell(); boolean is = random.nextInt(4) != 0;
                    set("stake(" + c + ", " + is + ")", x.stake(c, is), m.stake(c, is)); break; }
                case 6: case 7: case 8: { int n = some(20), w = some(4), f = some(100), i = some(10); boolean wet = random.nextBoolean();
                    set("night(" + n + ", " + w + ", " + f + ", " + i + ", " + wet + ")", x.night(n, w, f, i, wet), m.night(n, w, f, i, wet)); break; }
                case 9: { int s = some(1000000);
                    set("draw(" + s + ")", x.draw(s), m.draw(s)); break; }
                default: found(); break;
            }
        }

        /** Mostly where the stone lies indeed, so that guesses have something to find. */
        void found() {
            int k = m.foundK >= 0 && random.nextInt(3) != 0 ? m.foundK : some(20);
            int s = stone();
            int c = cell();
            boolean known = k >= 0 && k < 20 && s >= 0 && s < m.stones.size();
            if (known && random.nextInt(4) != 0) {
                c = m.lies(s, k);
            }
            set("found(" + k + ", " + s + ", " + c + ")", x.found(k, s, c), m.found(k, s, c));
        }

        void ask(int kind) {
            switch (kind) {
                case 12: { int s = stone(), k = behind(); set("lies(" + s + ", " + k + ")", x.lies(s, k), m.lies(s, k)); break; }
                case 13: { int k = some(20); set("moved(" + k + ")", x.moved(k), m.moved(k)); break; }
                case 14: { int s = stone(), k = behind(); set("work(" + s + ", " + k + ")", x.work(s, k), m.work(s, k)); break; }
                case 15: { int c = trodden(), k = behind(), i = some(5) - 1; set("tracks(" + c + ", " + k + ", " + i + ")", x.tracks(c, k, i), m.tracks(c, k, i)); break; }
                case 16: { int s = stone(), c = trodden(), w = some(4), k = behind(); set("which(" + s + ", " + c + ", " + w + ", " + k + ")", x.which(s, c, w, k), m.which(s, c, w, k)); break; }
                case 17: set("proof()", x.proof(), m.proof()); break;
                case 18: { int k = some(10); set("watch(" + k + ")", x.watch(k), m.watch(k)); break; }
                case 19: { int s = stone(), k = behind(); set("hold(" + s + ", " + k + ")", x.hold(s, k), m.hold(s, k)); break; }
                case 20: { int s = stone(), n = some(6), f = some(100), i = some(10), c = trodden();
                    set("spring(" + s + ", " + n + ", " + f + ", " + i + ", " + c + ")", x.spring(s, n, f, i, c), m.spring(s, n, f, i, c)); break; }
                case 21: { int s = stone(), k = behind(), w = some(2); set("alone(" + s + ", " + k + ", " + w + ")", x.alone(s, k, w), m.alone(s, k, w)); break; }
                case 22: { int n = some(20); set("met(" + n + ")", x.met(n), m.met(n)); break; }
                case 23: { int s = stone(), c = trodden(), k = behind();
                    set("steer(" + s + ", " + c + ", " + k + ")", x.steer(s, c, k), m.steer(s, c, k)); break; }
                case 24: { int n = some(20), w = some(2); set("guess(" + n + ", " + w + ")", x.guess(n, w), m.guess(n, w)); break; }
                case 25: { int n = some(20), w = some(4); set("guessWay(" + n + ", " + w + ")", x.guessWay(n, w), m.guessWay(n, w)); break; }
                case 26: { int a = random.nextInt(4) == 0 ? 999950 + random.nextInt(60) : some(1000000), n = some(100);
                    set("seeds(" + a + ", " + n + ")", x.seeds(a, n), m.seeds(a, n)); break; }
                case 27: case 28: case 29: book(); break;
                case 30: if (random.nextBoolean()) money(); else set("fault()", x.fault(), m.fault()); break;
                case 31: { int w = some(3); set("claims(" + w + ")", x.claims(w), m.claims(w)); break; }
                case 32: money(); break;
                case 33: { int w = some(2); set("part(" + w + ")", x.part(w), m.part(w)); break; }
                case 34: keep(); break;
                default: set("digest()", x.digest(), m.digest()); break;
            }
        }

        void money() {
            switch (random.nextInt(3)) {
                case 0: { int b = some(6), t = some(6); set("owed(" + b + ", " + t + ")", x.owed(b, t), m.owed(b, t)); break; }
                case 1: { int f = some(6); set("net(" + f + ")", x.net(f), m.net(f)); break; }
                default: set("fewest()", x.fewest(), m.fewest()); break;
            }
        }

        void keep() {
            switch (random.nextInt(4)) {
                case 0: { int i = some(2); set("image(" + i + ")", x.image(i), m.image(i)); break; }
                case 1: { int i = some(2); set("from(" + i + ")", x.from(i), m.from(i)); break; }
                case 2: { int w = some(3); set("status(" + w + ")", x.status(w), m.status(w)); break; }
                default: { int w = some(4); set("count(" + w + ")", x.count(w), m.count(w)); break; }
            }
        }

        private String pending = "";

        /** Types an item, as told or a little off, some bytes a call. */
        void book() {
            if (random.nextInt(40) == 0 || (m.fault() != -1 && pending.isEmpty() && random.nextInt(3) != 0)) {
                set("clear()", x.clear(), m.clear());
                pending = "";
                return;
            }
            if (pending.isEmpty()) {
                pending = item();
            }
            int n = random.nextInt(40) == 0 ? some(9) : Math.min(pending.length(), 1 + random.nextInt(8));
            long v = random.nextLong();
            if (n >= 1 && n <= 8) {
                int take = Math.min(n, pending.length());
                for (int i = 0; i < n; i++) {
                    v = v << 8 | (i < take ? pending.charAt(i) : ' ');
                }
                pending = pending.substring(take);
            }
            set("type(" + v + ", " + n + ")", x.type(v, n), m.type(v, n));
        }

        String item() {
            int f = random.nextInt(6), g = (f + 1 + random.nextInt(5)) % 6;
            int s = random.nextInt(Math.max(1, m.stones.size()));
            String text = random.nextInt(3) == 0
                    ? "back " + f + " " + g + " " + random.nextInt(100) + ";"
                    : "claim " + f + " " + g + " " + random.nextInt(20) + " " + s + " " + random.nextInt(100) + ";";
            switch (random.nextInt(25)) {
                case 0: return text.substring(0, random.nextInt(text.length())) + " ";
                case 1: { char[] c = text.toCharArray(); c[random.nextInt(c.length)] = (char) random.nextInt(256); return new String(c); }
                case 2: { int p = random.nextInt(text.length()); return text.substring(0, p) + "0" + text.substring(p); }
                case 3: return text.replace(" ", "  ").replace(";", " ; ");
                case 4: return text.replaceFirst(" ", "");
                default: return text;
            }
        }

        void set(String call, long got, long due) {
            this.call = call;
            this.got = got;
            this.due = due;
        }
    }

    private record Stone(int shape, int cell, int weight) { }

    private record Step(int night, int stone, int cell, int way, boolean wet) { }

    private record Night(int way, int force, int ice, boolean wet) { }

    /** What a stretch of nights did. */
    private static final class Tale {
        int[] cells;
        final List<Step> steps = new ArrayList<>();
        final List<Integer> moved = new ArrayList<>();
        final List<Integer> met = new ArrayList<>();
    }

    private static final class Kept {
        List<Stone> stones;
        int[] fences;
        boolean[] stakes;
        Night[] nights;
        String book;
        int foundK;
        int[] foundCells;
    }

    private static final class Model {
        List<Stone> stones = new ArrayList<>();
        int[] fences = new int[144];
        boolean[] stakes = new boolean[144];
        Night[] nights = new Night[20];
        String book = "";
        int foundK = -1;
        int[] foundCells = {-1, -1, -1, -1, -1, -1};
        long above = 0;
        long below = 1;
        final int[] status = new int[3];
        final Kept[] images = new Kept[2];

        Model() {
            Arrays.fill(nights, new Night(0, 0, 0, false));
        }

        int bad(int answer) { status[0]++; return answer; }
        int no(int answer) { status[1]++; return answer; }
        int full() { status[2]++; return -4; }
        static boolean out(int v, int low, int high) { return v < low || v > high; }
        boolean noStone(int s) { return out(s, 0, stones.size() - 1); }

        boolean stoneAtFirst(int cell) {
            return stones.stream().anyMatch(s -> s.cell() == cell);
        }

        int stone(int shape, int cell, int weight) {
            if (out(shape, 0, 4) || out(cell, 0, 143) || out(weight, 1, 99) || stoneAtFirst(cell) || stakes[cell]) return bad(-2);
            if (stones.size() == 6) return full();
            stones.add(new Stone(shape, cell, weight));
            return stones.size() - 1;
        }

        int fence(int cell, int kind) {
            if (out(cell, 0, 143) || out(kind, 0, 3)) return bad(-2);
            int was = fences[cell];
            fences[cell] = kind;
            return was;
        }

        int stake(int cell, boolean is) {
            if (out(cell, 0, 143) || stoneAtFirst(cell)) return bad(-2);
            if (stakes[cell] == is) return no(-3);
            stakes[cell] = is;
            return 1;
        }

        int night(int n, int way, int force, int ice, boolean wet) {
            if (out(n, 0, 19) || out(way, 0, 3) || out(force, 0, 99) || out(ice, 0, 9)) return bad(-2);
            nights[n] = new Night(way, force, ice, wet);
            return 1;
        }

        static Night[] drawn(int seed) {
            java.math.BigInteger x = java.math.BigInteger.valueOf(seed);
            int[] d = new int[80];
            for (int i = 0; i < 80; i++) {
                x = x.multiply(java.math.BigInteger.valueOf(1103515245)).add(java.math.BigInteger.valueOf(12345))
                        .mod(java.math.BigInteger.valueOf(2147483648L));
                d[i] = x.divide(java.math.BigInteger.valueOf(65536)).intValueExact();
            }
            Night[] all = new Night[20];
            for (int n = 0; n < 20; n++) {
                all[n] = new Night(d[4 * n] % 4, d[4 * n + 1] % 100, d[4 * n + 2] % 10, d[4 * n + 3] % 2 == 1);
            }
            return all;
        }

        int draw(int seed) {
            if (out(seed, 0, 999999)) return bad(-2);
            nights = drawn(seed);
            return 1;
        }

        int needOf(Stone s, int way) {
            if (s.shape() == 0) return 4 * s.weight();
            if (s.shape() == 1) return (way == 1 || way == 3 ? 2 : 1) * needOf(new Stone(0, 0, s.weight()), way);
            if (s.shape() == 2) return 3 * needOf(new Stone(0, 0, s.weight()), way);
            if (s.shape() == 3) return needOf(new Stone(2, 0, s.weight()), way) / 2;
            return needOf(new Stone(3, 0, s.weight()), way) + 40;
        }

        /** The tale of nights 0 to k; only the stones of the set are on the field. */
        Tale tale(Set<Integer> there, Night[] weather, int k, int[] fenced, boolean[] staked) {
            Tale t = new Tale();
            t.cells = stones.stream().mapToInt(Stone::cell).toArray();
            for (int n = 0; n <= k; n++) {
                int[] before = t.cells.clone();
                int met = 0;
                Night night = weather[n];
                int push = night.force() * night.ice();
                for (int s = 0; s < stones.size(); s++) {
                    if (there.contains(s) && push >= needOf(stones.get(s), night.way())) {
                        int steps = Math.min(9, 1 + (push - needOf(stones.get(s), night.way())) / (4 * stones.get(s).weight()));
                        met |= rolled(t, there, n, night, s, night.way(), steps, fenced, staked);
                    }
                }
                int moved = 0;
                for (int s = 0; s < stones.size(); s++) if (before[s] != t.cells[s]) moved |= 1 << s;
                t.moved.add(moved);
                t.met.add(met);
            }
            return t;
        }

        /** Row and column of a stone are looked at apart; who is met goes on by a call of its own. */
        int rolled(Tale t, Set<Integer> there, int n, Night night, int s, int way, int steps, int[] fenced, boolean[] staked) {
            while (steps > 0) {
                int row = t.cells[s] / 12 + (way == 0 ? -1 : way == 2 ? 1 : 0);
                int column = t.cells[s] % 12 + (way == 1 ? 1 : way == 3 ? -1 : 0);
                if (out(row, 0, 11) || out(column, 0, 11) || staked[12 * row + column]) return 0;
                int to = 12 * row + column;
                for (int o : there) {
                    if (t.cells[o] == to) {
                        if (night.force() * night.ice() < needOf(stones.get(o), way)) return 0;
                        return 1 << o | rolled(t, there, n, night, o, way, steps, fenced, staked);
                    }
                }
                t.steps.add(new Step(n, s, t.cells[s], way, night.wet()));
                t.cells[s] = to;
                steps--;
                if (fenced[to] == 3) return 0;
                if (fenced[to] == 1) way = new int[] {1, 2, 3, 0}[way];
                if (fenced[to] == 2) way = new int[] {3, 0, 1, 2}[way];
            }
            return 0;
        }

        Set<Integer> everyone() {
            Set<Integer> all = new HashSet<>();
            for (int s = 0; s < stones.size(); s++) all.add(s);
            return all;
        }

        Tale tale(int k) { return tale(everyone(), nights, k, fences, stakes); }

        int lies(int s, int k) { return noStone(s) || out(k, -1, 19) ? bad(-2) : tale(k).cells[s]; }
        int moved(int k) { return out(k, 0, 19) ? bad(-2) : tale(k).moved.get(k); }
        int met(int k) { return out(k, 0, 19) ? bad(-2) : tale(k).met.get(k); }

        int work(int s, int k) {
            if (noStone(s) || out(k, -1, 19)) return bad(-2);
            return (int) tale(k).steps.stream().filter(step -> step.stone() == s).count();
        }

        int tracks(int cell, int k, int i) {
            if (out(cell, 0, 143) || out(k, -1, 19) || i < -1) return bad(-10);
            List<Step> lead = tale(19).steps.stream().filter(Step::wet).limit(200)
                    .filter(s -> s.night() <= k && s.cell() == cell).toList();
            if (i == -1) return lead.size();
            if (i >= lead.size()) return -5;
            return 100 * lead.get(i).night() + 10 * lead.get(i).stone() + lead.get(i).way();
        }

        int which(int s, int cell, int way, int k) {
            if (noStone(s) || out(cell, 0, 143) || out(way, 0, 3) || out(k, -1, 19)) return bad(-2);
            int bits = 0;
            for (Step step : tale(k).steps) {
                if (step.stone() == s && step.cell() == cell && step.way() == way) bits |= 1 << step.night();
            }
            return bits;
        }

        int found(int k, int s, int cell) {
            if (out(k, 0, 19) || noStone(s) || out(cell, 0, 143)) return bad(-2);
            if (k != foundK) foundCells = new int[] {-1, -1, -1, -1, -1, -1};
            foundK = k;
            foundCells[s] = cell;
            return 1;
        }

        int elsewhere(Tale t) {
            int bits = 0;
            for (int s = 0; s < stones.size(); s++) if (foundCells[s] >= 0 && foundCells[s] != t.cells[s]) bits |= 1 << s;
            return bits;
        }

        int proof() { return elsewhere(tale(foundK)); }

        int watch(int k) {
            if (out(k, 0, 9)) return bad(-2);
            Tale t = tale(k);
            int all = t.moved.stream().reduce(0, (a, b) -> a | b);
            for (int many = 0; many <= 10; many++) {
                for (int set = 0; set < 1 << (k + 1); set++) {
                    int seen = 0;
                    for (int n = 0; n <= k; n++) if ((set >> n) % 2 == 1) seen |= t.moved.get(n);
                    if (Integer.bitCount(set) == many && seen == all) return set;
                }
            }
            return -99;
        }

        int hold(int s, int k) {
            if (noStone(s) || out(k, -1, 19)) return bad(-10);
            if (tale(k).cells[s] == stones.get(s).cell()) return -6;
            for (int cell = 0; cell < 144; cell++) {
                if (stakes[cell] || stoneAtFirst(cell)) continue;
                boolean[] more = stakes.clone();
                more[cell] = true;
                if (tale(everyone(), nights, k, fences, more).cells[s] == stones.get(s).cell()) return cell;
            }
            return -1;
        }

        int steer(int s, int cell, int k) {
            if (noStone(s) || out(cell, 0, 143) || out(k, -1, 19)) return bad(-10);
            for (int c = 0; c < 144; c++) {
                for (int kind = 1; kind <= 3; kind++) {
                    int[] other = fences.clone();
                    other[c] = kind;
                    if (!stakes[c] && tale(everyone(), nights, k, other, stakes).cells[s] == cell) return 10 * c + kind;
                }
            }
            return -1;
        }

        int alone(int s, int k, int what) {
            if (noStone(s) || out(k, -1, 19) || out(what, 0, 1)) return bad(-2);
            Tale t = tale(Set.of(s), nights, k, fences, stakes);
            return what == 0 ? t.cells[s] : t.steps.size();
        }

        void fraction(long a, long b) {
            long g = java.math.BigInteger.valueOf(a).gcd(java.math.BigInteger.valueOf(b)).longValueExact();
            above = a / g;
            below = b / g;
        }

        /** Goes through all the rows of ways. */
        int spring(int s, int n, int force, int ice, int cell) {
            if (noStone(s) || out(n, 0, 8) || out(force, 0, 99) || out(ice, 0, 9) || out(cell, 0, 143)) return bad(-2);
            Night[] trial = new Night[20];
            long hits = 0;
            long all = 1L << (2 * n);
            for (int row = 0; row < all; row++) {
                for (int i = 0; i < n; i++) trial[i] = new Night(row >> (2 * i) & 3, force, ice, false);
                if (tale(Set.of(s), trial, n - 1, fences, stakes).cells[s] == cell) hits++;
            }
            fraction(hits, all);
            return 1;
        }

        int[] guesses(int n) {
            int[] answer = {0, -1, 0, 0, 0, 0};
            Night[] trial = nights.clone();
            for (int way = 0; way < 4; way++) {
                for (int force = 0; force < 100; force++) {
                    for (int ice = 0; ice < 10; ice++) {
                        trial[n] = new Night(way, force, ice, nights[n].wet());
                        if (elsewhere(tale(everyone(), trial, foundK, fences, stakes)) != 0) continue;
                        answer[0]++;
                        answer[2 + way]++;
                        if (answer[1] == -1) answer[1] = 1000 * way + 10 * force + ice;
                    }
                }
            }
            return answer;
        }

        int guess(int n, int what) {
            if (out(n, 0, 19) || out(what, 0, 1)) return bad(-10);
            return foundK < 0 ? no(-20) : guesses(n)[what];
        }

        int guessWay(int n, int way) {
            if (out(n, 0, 19) || out(way, 0, 3)) return bad(-2);
            if (foundK < 0) return no(-3);
            int[] answer = guesses(n);
            if (answer[0] == 0) return no(-3);
            fraction(answer[2 + way], answer[0]);
            return 1;
        }

        int seeds(int a, int n) {
            if (out(a, 0, 999999) || out(n, 0, 99)) return bad(-10);
            if (foundK < 0) return no(-20);
            for (int seed = a; seed <= Math.min(a + n, 999999); seed++) {
                if (elsewhere(tale(everyone(), drawn(seed), foundK, fences, stakes)) == 0) return seed;
            }
            return -1;
        }

        int type(long v, int n) {
            if (out(n, 1, 8)) return bad(-2);
            if (book.length() + n > 200) return full();
            for (int i = n; i > 0; i--) book += (char) (v >>> (8 * (i - 1)) & 255);
            return book.length();
        }

        int clear() {
            int had = book.length();
            book = "";
            return had;
        }

        /** By regular expressions over what is left of the text. */
        int fault() {
            java.util.regex.Matcher tokens = java.util.regex.Pattern.compile("[a-z]+|[0-9]+|[^ ]", java.util.regex.Pattern.DOTALL).matcher(book);
            List<String> item = new ArrayList<>();
            while (tokens.find()) {
                item.add(tokens.group());
                if (!canStand(item)) return tokens.start();
                if (tokens.group().equals(";")) item.clear();
            }
            return item.isEmpty() ? -1 : book.length();
        }

        boolean canStand(List<String> item) {
            String last = item.get(item.size() - 1);
            int at = item.size() - 1;
            if (at == 0) return last.equals("claim") || last.equals("back");
            boolean claim = item.get(0).equals("claim");
            if (at == (claim ? 6 : 4)) return last.equals(";");
            if (!last.matches("[0-9]{1,2}")) return false;
            int v = Integer.parseInt(last);
            if (at == 1) return v <= 5;
            if (at == 2) return v <= 5 && v != Integer.parseInt(item.get(1));
            if (claim && at == 3) return v <= 19;
            if (claim && at == 4) return v < stones.size();
            return true;
        }

        int[] judged;
        int[][] owes;

        void judge() {
            judged = new int[3];
            owes = new int[6][6];
            Tale t = tale(19);
            int pushed = proof();
            for (String item : book.replaceAll("([a-z]+)", " $1 ").split(";")) {
                if (item.isBlank()) continue;
                String[] w = item.trim().split(" +");
                int[] v = new int[w.length];
                for (int i = 1; i < w.length; i++) v[i] = Integer.parseInt(w[i]);
                if (w[0].equals("back")) {
                    owes[v[1]][v[2]] -= v[3];
                    continue;
                }
                boolean unsure = foundK >= v[3] && (pushed >> v[4]) % 2 == 1 && (t.moved.get(v[3]) >> v[4]) % 2 == 0;
                judged[0]++;
                judged[unsure ? 2 : 1]++;
                if (!unsure) owes[v[1]][v[2]] += v[5];
            }
        }

        int claims(int what) {
            if (out(what, 0, 2)) return bad(-2);
            if (fault() != -1) return no(-3);
            judge();
            return judged[what];
        }

        int owed(int by, int to) {
            if (out(by, 0, 5) || out(to, 0, 5) || by == to) return bad(-1000000);
            if (fault() != -1) return no(-2000000);
            judge();
            return owes[by][to];
        }

        int netOf(int farmer) {
            int sum = 0;
            for (int other = 0; other < 6; other++) sum += owes[other][farmer] - owes[farmer][other];
            return sum;
        }

        int net(int farmer) {
            if (out(farmer, 0, 5)) return bad(-1000000);
            if (fault() != -1) return no(-2000000);
            judge();
            return netOf(farmer);
        }

        int fewest() {
            if (fault() != -1) return no(-3);
            judge();
            int[] nets = new int[6];
            for (int f = 0; f < 6; f++) nets[f] = netOf(f);
            return payments(nets, 0);
        }

        /** The first who is not even settles whole with one on the other side, whoever it be. */
        int payments(int[] nets, int first) {
            while (first < 6 && nets[first] == 0) first++;
            if (first == 6) return 0;
            int best = 99;
            for (int o = first + 1; o < 6; o++) {
                if (Long.signum(nets[o]) * Long.signum(nets[first]) < 0) {
                    nets[o] += nets[first];
                    best = Math.min(best, 1 + payments(nets, first + 1));
                    nets[o] -= nets[first];
                }
            }
            return best;
        }

        long part(int what) { return out(what, 0, 1) ? bad(-2) : what == 0 ? above : below; }

        int image(int i) {
            if (out(i, 0, 1)) return bad(-2);
            Kept kept = new Kept();
            kept.stones = new ArrayList<>(stones);
            kept.fences = fences.clone();
            kept.stakes = stakes.clone();
            kept.nights = nights.clone();
            kept.book = book;
            kept.foundK = foundK;
            kept.foundCells = foundCells.clone();
            images[i] = kept;
            return 1;
        }

        int from(int i) {
            if (out(i, 0, 1)) return bad(-2);
            if (images[i] == null) return no(-3);
            Kept kept = images[i];
            stones = new ArrayList<>(kept.stones);
            fences = kept.fences.clone();
            stakes = kept.stakes.clone();
            nights = kept.nights.clone();
            book = kept.book;
            foundK = kept.foundK;
            foundCells = kept.foundCells.clone();
            return 1;
        }

        int status(int what) { return out(what, 0, 2) ? bad(-1) : status[what]; }

        int count(int what) {
            if (out(what, 0, 3)) return bad(-2);
            if (what == 0) return stones.size();
            if (what == 2) return book.length();
            int sum = 0;
            for (boolean is : stakes) sum += what == 1 && is ? 1 : 0;
            for (int cell : foundCells) sum += what == 3 && cell >= 0 ? 1 : 0;
            return sum;
        }

        long digest() {
            List<Long> row = new ArrayList<>();
            for (int what = 0; what < 4; what++) row.add((long) count(what));
            for (Stone s : stones) row.addAll(List.of((long) s.shape(), (long) s.cell(), (long) s.weight()));
            for (int c = 0; c < 144; c++) row.addAll(List.of((long) fences[c], stakes[c] ? 1L : 0L));
            for (Night n : nights) row.addAll(List.of((long) n.way(), (long) n.force(), (long) n.ice(), n.wet() ? 1L : 0L));
            for (char c : book.toCharArray()) row.add((long) c);
            row.add((long) foundK);
            for (int s = 0; s < stones.size(); s++) row.add((long) foundCells[s]);
            row.addAll(List.of(above, below));
            long h = 641;
            for (long v : row) h = 31 * h + v;
            return h;
        }
    }
}

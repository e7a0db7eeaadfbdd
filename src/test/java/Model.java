import java.util.ArrayDeque;
import java.util.ArrayList;
import java.util.Arrays;
import java.util.Deque;
import java.util.HashSet;
import java.util.List;
import java.util.Set;
import java.util.regex.Matcher;
import java.util.regex.Pattern;

/**
 * The document written down a second time, by other means (objects, copies, patterns), for random
 * runs to be held against. It takes only arguments of which BAD is not due.
 */
final class Model {
    static final class Letter {
        int from, to, n, a, b, rows, u, v;
        boolean chained, engines, waits;
        int status, carried;

        int units() {
            return n * rows;
        }

        int residue() {
            return units() - carried;
        }

        int source(int k) {
            return ((from + k / n * u + k % n * a) % 64 + 64) % 64;
        }

        int target(int k) {
            return ((to + k / n * v + k % n * b) % 64 + 64) % 64;
        }

        Letter copy() {
            Letter l = new Letter();
            l.from = from; l.to = to; l.n = n; l.a = a; l.b = b; l.rows = rows; l.u = u; l.v = v;
            l.chained = chained; l.engines = engines; l.waits = waits; l.status = status; l.carried = carried;
            return l;
        }
    }

    static final class World {
        int[] bytes = new int[64];
        boolean[] on = {true, true, true, true};
        int[] rank = new int[4], burst = {4, 4, 4, 4}, post = new int[4], head = new int[4];
        int[] transfers = new int[4], grants = new int[4];
        Letter[][] ring = new Letter[4][6];
        /** 8 times the channel, and the slot. */
        List<Integer> waits = new ArrayList<>();
        int last = 3, gone = 0;

        World() {
            for (int i = 0; i < 64; i++) {
                bytes[i] = i;
            }
        }

        World copy() {
            World w = new World();
            w.bytes = bytes.clone(); w.on = on.clone(); w.rank = rank.clone(); w.burst = burst.clone();
            w.post = post.clone(); w.head = head.clone();
            w.transfers = transfers.clone(); w.grants = grants.clone();
            for (int c = 0; c < 4; c++) {
                for (int s = 0; s < 6; s++) {
                    w.ring[c][s] = ring[c][s] == null ? null : ring[c][s].copy();
                }
            }
            w.waits = new ArrayList<>(waits); w.last = last; w.gone = gone;
            return w;
        }

        Letter present(int c) {
            Letter l = ring[c][head[c]];
            return l != null && l.engines && !l.waits ? l : null;
        }

        boolean ready(int c) {
            Letter l = present(c);
            return on[c] && l != null && (waits.size() < 4 || l.residue() > burst[c]);
        }

        void writeBack(Integer which) {
            Letter l = ring[which / 8][which % 8];
            l.engines = false; l.status = 1; l.waits = false;
            waits.remove(which);
            if (!l.chained) {
                transfers[which / 8]++;
            }
        }

        int tick() {
            gone++;
            if (!waits.isEmpty()) {
                writeBack(waits.get(0));
            }
            int who = -9;
            for (int r = 3; r >= 0 && who == -9; r--) {
                for (int d = 1; d <= 4 && who == -9; d++) {
                    int c = (last + d) % 4;
                    who = rank[c] == r && ready(c) ? c : -9;
                }
            }
            if (who != -9) {
                Letter l = present(who);
                for (int i = 0; i < burst[who] && l.residue() > 0; i++) {
                    bytes[l.target(l.carried)] = bytes[l.source(l.carried)];
                    l.carried++;
                }
                last = who;
                grants[who]++;
                if (l.residue() == 0) {
                    l.waits = true;
                    waits.add(8 * who + head[who]);
                    head[who] = (head[who] + 1) % 6;
                }
            }
            return who;
        }

        int cancel(int c) {
            for (Integer w : new ArrayList<>(waits)) {
                if (w / 8 == c) {
                    writeBack(w);
                }
            }
            int sum = 0;
            Letter l = present(c);
            while (l != null) {
                sum += l.residue();
                l.engines = false;
                l.status = 2;
                head[c] = (head[c] + 1) % 6;
                l = l.chained ? present(c) : null;
            }
            return sum;
        }

        int engines(int c) {
            return (int) Arrays.stream(ring[c]).filter(l -> l != null && l.engines).count();
        }

        int engines() {
            return engines(0) + engines(1) + engines(2) + engines(3);
        }

        int over(int c) {
            World w = copy();
            for (int t = 0; t <= 200; t++) {
                if (w.engines(c) == 0) {
                    return t;
                }
                w.tick();
            }
            return -9;
        }
    }

    World world = new World();
    final StringBuilder text = new StringBuilder();
    final Deque<World> past = new ArrayDeque<>();
    final List<int[]> seen = new ArrayList<>();
    final World[] images = new World[2];

    private void remember() {
        past.push(world.copy());
        if (past.size() > 6) {
            past.removeLast();
        }
    }

    private static final Pattern TOKEN = Pattern.compile(" *(?:(?<word>[lfc;])|(?<number>-?[0-9]+)|(?<other>[^ ]))", Pattern.DOTALL);
    private static final Pattern NUMBER = Pattern.compile("0|-?[1-9][0-9]{0,2}");
    private static final int[][] FORM_L = {{0, 3}, {0, 63}, {0, 63}, {1, 16}, {-9, 9}, {-9, 9}, {1, 4}, {-20, 20}, {-20, 20}, {0, 1}};
    private static final int[][] FORM_F = {{0, 63}, {0, 255}};
    private static final int[][] FORM_C = {{0, 3}, {0, 3}, {1, 8}};

    private static int[][] form(char kind) {
        return kind == 'l' ? FORM_L : kind == 'f' ? FORM_F : FORM_C;
    }

    /** The FAULT; -1: none, and the items (kind, numbers) are added. */
    private int parse(List<int[]> items) {
        Matcher m = TOKEN.matcher(text);
        int[] item = null;
        int filled = 0;
        while (m.lookingAt()) {
            String group = m.group("word") != null ? "word" : m.group("number") != null ? "number" : "other";
            int first = m.start(group);
            String token = m.group(group);
            m.region(m.end(), text.length());
            if (item == null) {
                if (!group.equals("word") || token.equals(";")) {
                    return first;
                }
                item = new int[1 + form(token.charAt(0)).length];
                item[0] = token.charAt(0);
                filled = 1;
            } else if (filled == item.length) {
                if (!token.equals(";")) {
                    return first;
                }
                items.add(item);
                item = null;
            } else {
                if (!group.equals("number") || !NUMBER.matcher(token).matches()) {
                    return first;
                }
                int value = Integer.parseInt(token);
                int[] range = form((char) item[0])[filled - 1];
                if (value < range[0] || value > range[1]) {
                    return first;
                }
                item[filled++] = value;
            }
        }
        return item == null ? -1 : text.length();
    }

    int type(int sign) {
        if (text.length() == 120) {
            return -3;
        }
        text.append((char) sign);
        return text.length();
    }

    int clear() {
        int had = text.length();
        text.setLength(0);
        return had;
    }

    int posts() {
        List<int[]> items = new ArrayList<>();
        int fault = parse(items);
        if (fault >= 0) {
            return -10 - fault;
        }
        World w = world.copy();
        for (int[] i : items) {
            if (i[0] == 'f') {
                w.bytes[i[1]] = i[2];
            } else if (i[0] == 'c') {
                w.rank[i[1]] = i[2];
                w.burst[i[1]] = i[3];
            } else {
                Letter was = w.ring[i[1]][w.post[i[1]]];
                if (was != null && was.engines) {
                    return -3;
                }
                Letter l = new Letter();
                l.from = i[2]; l.to = i[3]; l.n = i[4]; l.a = i[5]; l.b = i[6]; l.rows = i[7];
                l.u = i[8]; l.v = i[9]; l.chained = i[10] == 1; l.engines = true;
                w.ring[i[1]][w.post[i[1]]] = l;
                w.post[i[1]] = (w.post[i[1]] + 1) % 6;
            }
        }
        remember();
        world = w;
        clear();
        return items.size();
    }

    int ticks(int n) {
        remember();
        int granted = 0;
        for (int i = 0; i < n; i++) {
            granted += world.tick() == -9 ? 0 : 1;
        }
        return granted;
    }

    int cancels(int c) {
        if (world.present(c) == null) {
            return -2;
        }
        remember();
        return world.cancel(c);
    }

    int switches(int c) {
        remember();
        world.on[c] = !world.on[c];
        return world.on[c] ? 1 : 0;
    }

    int tunes(int c, int rank, int burst) {
        if (world.rank[c] == rank && world.burst[c] == burst) {
            return -2;
        }
        remember();
        world.rank[c] = rank;
        world.burst[c] = burst;
        return 1;
    }

    int undo() {
        if (past.isEmpty()) {
            return -2;
        }
        world = past.pop();
        return past.size();
    }

    int at(int address) {
        return world.bytes[address];
    }

    int channel(int c, int what) {
        int[] all = {world.on[c] ? 1 : 0, world.rank[c], world.burst[c], world.post[c], world.head[c],
            world.present(c) == null ? 0 : world.present(c).residue(),
            world.transfers[c], world.grants[c], world.ready(c) ? 1 : 0};
        return all[what];
    }

    int slot(int c, int s, int what) {
        Letter l = world.ring[c][s];
        if (l == null) {
            return -9;
        }
        int[] all = {l.engines ? 1 : 0, l.status, l.residue(), l.units(), l.chained ? 1 : 0, l.waits ? 1 : 0};
        return all[what];
    }

    int unit(int c, int s, int k, int way) {
        Letter l = world.ring[c][s];
        return l == null || k >= l.units() ? -9 : way == 0 ? l.source(k) : l.target(k);
    }

    int waiting(int i) {
        return i < world.waits.size() ? world.waits.get(i) : -9;
    }

    private static Set<Integer> targets(Letter l) {
        Set<Integer> all = new HashSet<>();
        for (int k = 0; k < l.units(); k++) {
            all.add(l.target(k));
        }
        return all;
    }

    int both(int c, int s, int other, int otherSlot) {
        Letter one = world.ring[c][s];
        Letter two = world.ring[other][otherSlot];
        if (one == null || two == null) {
            return -9;
        }
        Set<Integer> all = targets(one);
        all.retainAll(targets(two));
        return all.size();
    }

    int over(int c) {
        return world.over(c);
    }

    int lands(int address) {
        int found = 0;
        for (Letter[] ring : world.ring) {
            for (Letter l : ring) {
                for (int k = l == null || !l.engines || l.waits ? 9999 : l.carried; l != null && k < l.units(); k++) {
                    found += l.target(k) == address ? 1 : 0;
                }
            }
        }
        return found;
    }

    int enough(int c, int n) {
        for (int burst = 1; burst <= 8; burst++) {
            World w = world.copy();
            w.burst[c] = burst;
            int over = w.over(c);
            if (over != -9 && over <= n) {
                return burst;
            }
        }
        return -9;
    }

    private static int granted(World from, int k) {
        World w = from.copy();
        for (int i = 1; i < k; i++) {
            w.tick();
        }
        return w.tick();
    }

    int granted(int k) {
        return granted(world, k);
    }

    int sees(int k, int c) {
        if (seen.size() == 6) {
            return -3;
        }
        seen.add(new int[] {k, c});
        return seen.size();
    }

    int forget() {
        int was = seen.size();
        seen.clear();
        return was;
    }

    int ranks(int c) {
        int bits = 0;
        for (int rank = 0; rank < 4; rank++) {
            World w = world.copy();
            w.rank[c] = rank;
            if (seen.stream().allMatch(s -> granted(w, s[0]) == s[1])) {
                bits |= 1 << rank;
            }
        }
        return bits;
    }

    int keep(int image) {
        images[image] = world.copy();
        return world.engines();
    }

    int back(int image) {
        if (images[image] == null) {
            return -2;
        }
        world = images[image].copy();
        past.clear();
        return world.engines();
    }

    int count(int what) {
        int[] all = {world.engines(), world.waits.size(), world.last, seen.size(), text.length(), past.size(), world.gone};
        return all[what];
    }
}

import java.util.ArrayList;
import java.util.List;

/**
 * The document once more, in its slowest and most literal form: rows are tried one by one.
 * The program is held against it.
 */
final class PlainAir {
    int masts = 0;
    int channels = 3;
    int limit = 2000;
    int start = 100;
    int step = 10;
    final int[][] pair = new int[10][10];
    final int[] bar = new int[10];
    final boolean[] old = new boolean[10];
    final int[] value = new int[10];
    final int[] weight = new int[10];
    final int[] before = new int[10];
    final int[] after = new int[10];
    int houses = 0;
    final List<int[]> sentences = new ArrayList<>();
    final int[] price = new int[6];
    final int[] heard = new int[16];

    private int tries;
    private int[] bestRow;
    private int bestSum;

    PlainAir() {
        java.util.Arrays.fill(before, -1);
        java.util.Arrays.fill(after, -1);
    }

    static boolean in(int set, int i) {
        return i >= 0 && i < 31 && (set & 1 << i) != 0;
    }

    boolean setOk(int set) {
        return set >= 0 && set < 1 << masts;
    }

    boolean groupOk(int group) {
        return group >= 0 && group < 1 << houses;
    }

    boolean breaks(int a, int ca, int b, int cb) {
        if (ca < 0 || cb < 0 || a == b) {
            return false;
        }
        return pair[a][b] == 1 && ca == cb || pair[a][b] == 2 && Math.abs(ca - cb) <= 1;
    }

    // ---- packings

    /** The search, step by step; null: none. The tries are counted; above the most it ends with {-5}. */
    private int[] search(int set, int most) {
        List<Integer> row = new ArrayList<>();
        for (int m = 0; m < 10; m++) {
            if (in(set, m)) {
                row.add(m);
            }
        }
        int[] at = new int[row.size()];
        java.util.Arrays.fill(at, -1);
        int who = 0;
        tries = 0;
        while (who < row.size()) {
            boolean found = false;
            while (!found && at[who] + 1 < channels) {
                if (tries + 1 > most) {
                    return new int[] {-5};
                }
                tries++;
                at[who]++;
                found = (bar[row.get(who)] & 1 << at[who]) == 0;
                for (int ahead = 0; ahead < who; ahead++) {
                    found &= !breaks(row.get(who), at[who], row.get(ahead), at[ahead]);
                }
            }
            if (found) {
                who++;
            } else {
                at[who] = -1;
                who--;
                if (who < 0) {
                    return null;
                }
            }
        }
        int[] all = new int[10];
        java.util.Arrays.fill(all, -1);
        for (int i = 0; i < at.length; i++) {
            all[row.get(i)] = at[i];
        }
        return all;
    }

    int fits(int set) {
        if (!setOk(set)) {
            return -2;
        }
        int[] found = search(set, limit);
        return found == null ? 0 : found.length == 1 ? -5 : 1;
    }

    int tries(int set) {
        if (!setOk(set)) {
            return -2;
        }
        search(set, limit);
        return tries;
    }

    int packing(int set, int mast) {
        if (!setOk(set) || !in(set, mast)) {
            return -2;
        }
        int[] found = search(set, Integer.MAX_VALUE - 1);
        return found == null ? -1 : found[mast];
    }

    private boolean packs(int set) {
        return search(set, Integer.MAX_VALUE - 1) != null;
    }

    int reason(int set) {
        if (!setOk(set)) {
            return -2;
        }
        int found = -3;
        for (int part = set; part > 0; part--) {
            if ((part & set) == part && !packs(part)
                    && (found < 0 || Integer.bitCount(part) <= Integer.bitCount(found))) {
                found = part;
            }
        }
        return found;
    }

    int spare(int set) {
        if (!setOk(set)) {
            return -2;
        }
        if (!packs(set)) {
            return -3;
        }
        int bits = 0;
        for (int m = 0; m < masts; m++) {
            if (!in(set, m) && packs(set + (1 << m))) {
                bits += 1 << m;
            }
        }
        return bits;
    }

    // ---- the clock

    /** back, frozen, rounds, all paid; then paid to each and the round of each. */
    int[] fall(int[] told) {
        int[] end = new int[24];
        int ahead = start;
        int now = start;
        while (true) {
            int open = 0;
            for (int m = 0; m < masts; m++) {
                open += old[m] && !in(end[0] | end[1], m) ? 1 : 0;
            }
            if (open == 0) {
                return end;
            }
            for (int m = 0; m < masts; m++) {
                if (!old[m] || in(end[0] | end[1], m)) {
                    continue;
                }
                if (fits(end[0] | 1 << m) != 1) {
                    end[1] |= 1 << m;
                    end[4 + m] = ahead * weight[m];
                    end[3] += ahead * weight[m];
                    end[14 + m] = end[2];
                } else if (now * weight[m] < told[m] || now == 0) {
                    end[0] |= 1 << m;
                    end[14 + m] = end[2];
                }
            }
            end[2]++;
            ahead = now;
            now = now - step < 0 ? 0 : now - step;
        }
    }

    boolean isOld(int mast) {
        return mast >= 0 && mast < masts && old[mast];
    }

    private int worth(int mast, int word) {
        int[] told = value.clone();
        told[mast] = word;
        int[] end = fall(told);
        return in(end[1], mast) ? end[4 + mast] - value[mast] : 0;
    }

    int gain(int mast, int word) {
        if (!isOld(mast) || word < 0 || word > 1000) {
            return -1000000;
        }
        return worth(mast, word) - worth(mast, value[mast]);
    }

    int most(int mast, int w, int d, int what) {
        if (!isOld(mast) || w < 0 || w > 1000 || d < 1 || d > 1000 || w / d > 20 || what < 0 || what > 1) {
            return -1000000;
        }
        int best = Integer.MIN_VALUE;
        int word = -1;
        for (int k = 0; k <= w; k++) {
            if (k % d == 0 && gain(mast, k) > best) {
                best = gain(mast, k);
                word = k;
            }
        }
        return what == 0 ? best : word;
    }

    // ---- sentences

    private void rows(int group, int house, int bands, int sum, int[] row) {
        if (house == houses) {
            if (sum > bestSum) {
                bestSum = sum;
                bestRow = row.clone();
            }
            return;
        }
        row[house] = -1;
        rows(group, house + 1, bands, sum, row);
        for (int s = 0; in(group, house) && s < sentences.size(); s++) {
            int[] t = sentences.get(s);
            if (t[0] == house && (t[1] & bands) == 0) {
                row[house] = s;
                rows(group, house + 1, bands | t[1], sum + t[2], row);
            }
        }
        row[house] = -1;
    }

    private void solve(int group) {
        bestSum = -1;
        rows(group, 0, 0, 0, new int[6]);
    }

    int best(int group, int what) {
        if (!groupOk(group) || what != -1 && !in(group, what)) {
            return -10;
        }
        solve(group);
        return what == -1 ? bestSum : bestRow[what];
    }

    private int won(int house) {
        return bestRow[house] < 0 ? 0 : sentences.get(bestRow[house])[2];
    }

    int takes(int house) {
        if (house < 0 || house >= houses) {
            return -2;
        }
        int all = (1 << houses) - 1;
        solve(all - (1 << house));
        int without = bestSum;
        solve(all);
        for (int h = 0; h < houses; h++) {
            without -= h == house ? 0 : won(h);
        }
        return without;
    }

    int blocks(int group) {
        if (!groupOk(group)) {
            return -2;
        }
        solve(group);
        int own = bestSum;
        solve((1 << houses) - 1);
        int kept = 0;
        for (int h = 0; h < houses; h++) {
            if (bestRow[h] >= 0) {
                kept += price[h];
                if (in(group, h) && won(h) > price[h]) {
                    kept += won(h) - price[h];
                }
            }
        }
        return own > kept ? 1 : 0;
    }

    int alone() {
        for (int group = 0; group < 1 << houses; group++) {
            if (blocks(group) == 1) {
                return group;
            }
        }
        return -1;
    }

    // ---- moves, towers, voices

    private boolean quiet(int moved) {
        for (int a = 0; a < masts; a++) {
            for (int b = 0; b < masts; b++) {
                int ca = in(moved, a) ? after[a] : before[a];
                int cb = in(moved, b) ? after[b] : before[b];
                if (breaks(a, ca, b, cb)) {
                    return false;
                }
            }
        }
        return true;
    }

    /** The first row of so many weeks; dead ends are kept, for there are many ways into each. */
    private boolean weekRow(int moved, int moving, int k, int left, List<Integer> row, boolean[][] dead) {
        if (left == 0) {
            return moved == moving;
        }
        if (dead[left][moved]) {
            return false;
        }
        for (int set = 0; set <= moving; set++) {
            if ((set & moving) == set && (set & moved) == 0 && Integer.bitCount(set) <= k && quiet(moved | set)) {
                row.add(set);
                if (weekRow(moved | set, moving, k, left - 1, row, dead)) {
                    return true;
                }
                row.remove(row.size() - 1);
            }
        }
        dead[left][moved] = true;
        return false;
    }

    int weeks(int k, int what) {
        if (k < 1 || k > 10 || what < -1) {
            return -10;
        }
        int moving = 0;
        for (int m = 0; m < masts; m++) {
            moving |= before[m] == after[m] ? 0 : 1 << m;
        }
        if (!quiet(0) || !quiet(moving)) {
            return -5;
        }
        for (int many = 0; many <= 10; many++) {
            List<Integer> row = new ArrayList<>();
            if (weekRow(0, moving, k, many, row, new boolean[11][1024])) {
                return what == -1 ? many : what < many ? row.get(what) : -1;
            }
        }
        return -5;
    }

    int tower(int mast, int channel) {
        if (mast < 0 || mast >= masts || channel < 0 || channel >= channels) {
            return -2;
        }
        int bits = 0;
        for (int m = 0; m < masts; m++) {
            bits |= breaks(mast, channel, m, after[m]) ? 1 << m : 0;
        }
        return bits;
    }

    int free(int mast) {
        if (mast < 0 || mast >= masts) {
            return -2;
        }
        int bits = 0;
        for (int c = 0; c < channels; c++) {
            bits |= tower(mast, c) == 0 && !in(bar[mast], c) ? 1 << c : 0;
        }
        return bits;
    }

    int could(int listened, int hearing) {
        if (!setOk(listened) || !setOk(hearing) || (listened | hearing) != listened) {
            return -2;
        }
        int bits = 0;
        for (int place = 0; place < 16; place++) {
            boolean so = true;
            for (int m = 0; m < masts; m++) {
                so &= !in(listened, m) || in(heard[place], m) == in(hearing, m);
            }
            bits |= so ? 1 << place : 0;
        }
        return bits;
    }

    long digest() {
        List<Integer> row = new ArrayList<>();
        int olds = 0;
        for (int m = 0; m < masts; m++) {
            olds += old[m] ? 1 : 0;
        }
        row.addAll(List.of(masts, olds, houses, sentences.size(), channels, limit, start, step));
        for (int m = 0; m < masts; m++) {
            row.add(bar[m]);
            for (int o = 0; o < masts; o++) {
                if (o != m) {
                    row.add(pair[m][o]);
                }
            }
            row.addAll(List.of(value[m], weight[m], before[m], after[m]));
        }
        for (int[] s : sentences) {
            row.addAll(List.of(s[0], s[1], s[2]));
        }
        for (int h = 0; h < houses; h++) {
            row.add(price[h]);
        }
        for (int h : heard) {
            row.add(h);
        }
        int[] end = fall(value);
        row.addAll(List.of(end[0], end[1], end[2], end[3]));
        long h = 401;
        for (int v : row) {
            h = 31 * h + v;
        }
        return h;
    }
}

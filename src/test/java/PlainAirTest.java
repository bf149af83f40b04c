import java.util.Random;

/** Random runs of calls, each answer held against the plain form of the document. */
public final class PlainAirTest {
    private static final int RUNS = 1200;
    private static final int CALLS = 300;
    private static final int[] ODD = {-1, -2, 64, 1023, 1024, 2000, 2001, Integer.MAX_VALUE, Integer.MIN_VALUE};

    private final Random random;
    private final AirClock x = new AirClock();
    private final PlainAir y = new PlainAir();
    private final int wish;

    private PlainAirTest(long seed) {
        random = new Random(seed);
        wish = 1 + random.nextInt(10);
        if (seed % 2 == 0) {
            beginCrowded();
        }
    }

    public static void main(String[] args) {
        for (int seed = 1; seed <= RUNS && !Due.anyWrong(); seed++) {
            PlainAirTest run = new PlainAirTest(seed);
            for (int call = 0; call < CALLS; call++) {
                run.oneCall(seed, call);
            }
            Due.is("seed " + seed + " digest", run.x.digest(), run.y.digest());
        }
        Due.end();
    }

    /** Few runs come to many masts, stations and sentences by themselves, so half of them begin there. */
    private void beginCrowded() {
        int often = 1 + random.nextInt(3);
        for (int a = 0; a < wish; a++) {
            Due.is("mast()", x.mast(), a);
            y.masts++;
            for (int b = 0; b < a; b++) {
                y.pair[a][b] = random.nextInt(4) < often ? 1 + random.nextInt(2) : 0;
                y.pair[b][a] = y.pair[a][b];
                Due.is("pair", x.pair(a, b, y.pair[a][b]), 0);
            }
            if (random.nextInt(4) != 0) {
                y.old[a] = true;
                y.value[a] = random.nextInt(1001);
                y.weight[a] = 1 + random.nextInt(10);
                Due.is("old", x.old(a, y.value[a], y.weight[a]), 1);
            }
        }
        for (int house = 0; house < 6; house++) {
            Due.is("house()", x.house(), house);
            y.houses++;
        }
        for (int many = 0; many < 12; many++) {
            int[] asked = {random.nextInt(6), 1 + random.nextInt(63), 1 + random.nextInt(30)};
            Due.is("ask", x.ask(asked[0], asked[1], asked[2]), many);
            y.sentences.add(asked);
        }
    }

    private int of(int least, int most) {
        if (random.nextInt(60) == 0) {
            return ODD[random.nextInt(ODD.length)];
        }
        return least + random.nextInt(most - least + 1);
    }

    private int mast() {
        return of(0, random.nextInt(20) == 0 ? 10 : Math.max(0, y.masts - 1));
    }

    private int set() {
        return of(0, (1 << y.masts) - (random.nextInt(20) == 0 ? 0 : 1));
    }

    private int house() {
        return of(0, random.nextInt(20) == 0 ? 6 : Math.max(0, y.houses - 1));
    }

    private int group() {
        return of(0, (1 << y.houses) - (random.nextInt(20) == 0 ? 0 : 1));
    }

    private static boolean ok(int v, int least, int most) {
        return v >= least && v <= most;
    }

    private void oneCall(int seed, int call) {
        String where = "seed " + seed + " call " + call + " ";
        switch (random.nextInt(8)) {
            case 0:
                shape(where);
                break;
            case 1:
            case 2:
                pairsAndBars(where);
                break;
            case 3:
                packings(where);
                break;
            case 4:
                clock(where);
                break;
            case 5:
                sentences(where);
                break;
            case 6:
                moves(where);
                break;
            default:
                voices(where);
                break;
        }
    }

    private void shape(String where) {
        int v;
        switch (random.nextInt(5)) {
            case 0:
                if (y.masts < wish || random.nextInt(40) == 0) {
                    Due.is(where + "mast()", x.mast(), y.masts < 10 ? y.masts : -4);
                    y.masts = Math.min(10, y.masts + 1);
                }
                break;
            case 1:
                v = of(1, 6);
                Due.is(where + "channels " + v, x.channels(v), ok(v, 1, 6) ? y.channels : -2);
                y.channels = ok(v, 1, 6) ? v : y.channels;
                break;
            case 2:
                v = random.nextBoolean() ? of(1, 60) : 2000;
                Due.is(where + "limit " + v, x.limit(v), ok(v, 1, 2000) ? y.limit : -2);
                y.limit = ok(v, 1, 2000) ? v : y.limit;
                break;
            case 3:
                Due.is(where + "house()", x.house(), y.houses < 6 ? y.houses : -4);
                y.houses = Math.min(6, y.houses + 1);
                break;
            default:
                int a = of(1, 1000);
                int b = of(1, 100);
                boolean fine = ok(a, 1, 1000) && ok(b, 1, 100) && a <= 50 * b;
                Due.is(where + "clock " + a + " " + b, x.clock(a, b), fine ? 1 : -2);
                y.start = fine ? a : y.start;
                y.step = fine ? b : y.step;
                break;
        }
    }

    private void pairsAndBars(String where) {
        int a = mast();
        if (random.nextInt(4) == 0) {
            int bits = random.nextInt(3) == 0 ? of(0, 63) : of(0, 3);
            boolean fine = ok(a, 0, y.masts - 1) && ok(bits, 0, (1 << y.channels) - 1);
            Due.is(where + "bar " + a + " " + bits, x.bar(a, bits), fine ? y.bar[a] : -2);
            if (fine) {
                y.bar[a] = bits;
            }
            return;
        }
        int b = mast();
        int v = of(0, random.nextInt(9) == 0 ? 3 : 2);
        boolean fine = ok(a, 0, y.masts - 1) && ok(b, 0, y.masts - 1) && a != b && ok(v, 0, 2);
        Due.is(where + "pair " + a + " " + b + " " + v, x.pair(a, b, v), fine ? y.pair[a][b] : -2);
        if (fine) {
            y.pair[a][b] = v;
            y.pair[b][a] = v;
        }
    }

    private void packings(String where) {
        int s = set();
        int m = mast();
        switch (random.nextInt(5)) {
            case 0:
                Due.is(where + "fits " + s, x.fits(s), y.fits(s));
                break;
            case 1:
                Due.is(where + "tries " + s, x.tries(s), y.tries(s));
                break;
            case 2:
                Due.is(where + "packing " + s + " " + m, x.packing(s, m), y.packing(s, m));
                break;
            case 3:
                Due.is(where + "reason " + s, x.reason(s), y.reason(s));
                break;
            default:
                Due.is(where + "spare " + s, x.spare(s), y.spare(s));
                break;
        }
    }

    private void clock(String where) {
        int m = mast();
        int w = of(0, 1000);
        int d;
        switch (random.nextInt(6)) {
            case 0:
                int weight = of(1, 10);
                boolean fine = ok(m, 0, y.masts - 1) && ok(w, 0, 1000) && ok(weight, 1, 10);
                Due.is(where + "old", x.old(m, w, weight), !fine ? -2 : y.old[m] ? -3 : 1);
                if (fine && !y.old[m]) {
                    y.old[m] = true;
                    y.value[m] = w;
                    y.weight[m] = weight;
                }
                break;
            case 1:
                d = of(0, 4);
                Due.is(where + "run " + d, x.run(d), ok(d, 0, 3) ? y.fall(y.value)[d] : -2);
                break;
            case 2:
                Due.is(where + "paid " + m, x.paid(m), y.isOld(m) ? y.fall(y.value)[4 + m] : -2);
                break;
            case 3:
                Due.is(where + "round " + m, x.round(m), y.isOld(m) ? y.fall(y.value)[14 + m] : -2);
                break;
            case 4:
                Due.is(where + "gain " + m + " " + w, x.gain(m, w), y.gain(m, w));
                break;
            default:
                d = random.nextInt(3) == 0 ? of(1, 1000) : w / of(1, 20) + 1;
                int what = random.nextInt(2);
                Due.is(where + "most " + m + " " + w + " " + d, x.most(m, w, d, what), y.most(m, w, d, what));
                break;
        }
    }

    private void sentences(String where) {
        int h = house();
        int g = group();
        switch (random.nextInt(7)) {
            case 0:
            case 1:
                int bands = random.nextBoolean() ? 1 << random.nextInt(6) | 1 << random.nextInt(6) : of(1, 63);
                int sum = random.nextBoolean() ? of(1, 9) : of(1, 100000);
                boolean fine = ok(h, 0, y.houses - 1) && ok(bands, 1, 63) && ok(sum, 1, 100000);
                int many = y.sentences.size();
                Due.is(where + "ask", x.ask(h, bands, sum), !fine ? -2 : many < 24 ? many : -4);
                if (fine && many < 24) {
                    y.sentences.add(new int[] {h, bands, sum});
                }
                break;
            case 2:
                int what = random.nextInt(4) == 0 ? -1 : house();
                Due.is(where + "best " + g + " " + what, x.best(g, what), y.best(g, what));
                break;
            case 3:
                Due.is(where + "takes " + h, x.takes(h), y.takes(h));
                break;
            case 4:
                int v = random.nextBoolean() ? of(0, 9) : of(0, 100000);
                boolean told = ok(h, 0, y.houses - 1) && ok(v, 0, 100000);
                Due.is(where + "price " + h + " " + v, x.price(h, v), told ? y.price[h] : -2);
                if (told) {
                    y.price[h] = v;
                }
                break;
            case 5:
                Due.is(where + "blocks " + g, x.blocks(g), y.blocks(g));
                break;
            default:
                Due.is(where + "alone()", x.alone(), y.alone());
                break;
        }
    }

    private void moves(String where) {
        int m = mast();
        if (random.nextInt(3) != 0) {
            int which = of(0, random.nextInt(9) == 0 ? 2 : 1);
            int c = of(-1, random.nextInt(9) == 0 ? 6 : 5);
            boolean fine = ok(m, 0, y.masts - 1) && ok(which, 0, 1) && ok(c, -1, 5);
            int[] row = which == 0 ? y.before : y.after;
            Due.is(where + "tell " + m + " " + which + " " + c, x.tell(m, which, c), fine ? row[m] : -10);
            if (fine) {
                row[m] = c;
            }
            return;
        }
        int k = random.nextBoolean() ? of(1, 3) : of(1, 10);
        int what = of(-1, 4);
        Due.is(where + "weeks " + k + " " + what, x.weeks(k, what), y.weeks(k, what));
    }

    private void voices(String where) {
        int m = mast();
        int s = set();
        switch (random.nextInt(6)) {
            case 0:
                int c = of(0, 5);
                Due.is(where + "tower " + m + " " + c, x.tower(m, c), y.tower(m, c));
                break;
            case 1:
                Due.is(where + "free " + m, x.free(m), y.free(m));
                break;
            case 2:
            case 3:
                int place = of(0, 15);
                boolean fine = ok(place, 0, 15) && y.setOk(s);
                Due.is(where + "heard " + place + " " + s, x.heard(place, s), fine ? y.heard[place] : -2);
                if (fine) {
                    y.heard[place] = s;
                }
                break;
            case 4:
                int hearing = random.nextInt(4) == 0 ? set() : s & random.nextInt(1024);
                Due.is(where + "could " + s + " " + hearing, x.could(s, hearing), y.could(s, hearing));
                break;
            default:
                Due.is(where + "digest()", x.digest(), y.digest());
                break;
        }
    }
}

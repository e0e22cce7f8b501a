/**
 * The document once more, in the plainest tables, for RunsTest to compare with. It shares nothing with the program.
 * A refused call answers one of the three numbers below instead of throwing.
 */
final class PlainRoad {
    static final long INDEX = Long.MIN_VALUE;
    static final long ARGUMENT = Long.MIN_VALUE + 1;
    static final long STATE = Long.MIN_VALUE + 2;

    final int[][] s = new int[20][];
    final int[][] m = new int[12][];
    final int[][][] wrote = new int[12][10][];
    final int[][] machine = new int[4][];
    final int[][] p = new int[16][];
    final int[][][] works = new int[16][6][];
    int measures = 0;
    int machines = 0;
    int possessions = 0;
    int day = 0;
    int heat = 20;
    int cost = 0;
    int risks = 0;
    int broke = 0;
    int unsafe = 0;
    int overruns = 0;

    // Of a section: 0 wear, 1 crack, 2 settle, 3 tamps, 4 free, 5 curve, 6 sign.
    PlainRoad() {
        for (int i = 0; i < 20; i++) {
            s[i] = new int[] {0, 0, 0, 0, 27, 0, 160};
        }
    }

    static boolean out(int value, int least, int most) {
        return value < least || value > most;
    }

    static int[] bears(int[] v, int heat, int free) {
        int w = v[0] >= 100 ? 20 : v[0] >= 80 ? 60 : v[0] >= 60 ? 100 : 160;
        int c = v[1] >= 40 ? 0 : v[1] >= 20 ? 40 : v[1] >= 10 ? 80 : 160;
        int t = v[2] >= 50 ? 10 : v[2] >= 40 ? 40 : v[2] >= 30 ? 80 : v[2] >= 20 ? 120 : 160;
        int more = heat - free;
        int h = 160;
        if (more > 20) {
            h = 80;
        }
        if (more > 30) {
            h = 40;
        }
        if (more < -40) {
            h = 100;
        }
        return new int[] {w, c, t, h};
    }

    static int speed(int[] v, int heat, int free) {
        int least = 160;
        for (int b : bears(v, heat, free)) {
            least = b < least ? b : least;
        }
        return least;
    }

    static int decides(int[] v, int heat, int free) {
        int[] b = bears(v, heat, free);
        int found = 0;
        int least = 160;
        for (int i = 0; i < 4; i++) {
            if (b[i] < least) {
                least = b[i];
                found = i + 1;
            }
        }
        return found;
    }

    static void step2(int[] v, int trains) {
        v[0] += trains / (v[5] == 1 ? 4 : 8);
        if (v[0] > 100) {
            v[0] = 100;
        }
        if (v[1] != 0) {
            v[1] = v[1] + 1 + v[1] / 8;
        } else if (v[0] > 49) {
            v[1] = 1;
        }
        if (v[1] > 60) {
            v[1] = 60;
        }
        v[2] += (trains + 5 * v[3]) / 10;
        if (v[2] > 60) {
            v[2] = 60;
        }
    }

    static void treat(int[] v, int kind, int heat) {
        if (kind == 0) {
            v[2] /= 4;
            v[3]++;
        }
        if (kind == 1) {
            v[1] = v[1] < 8 ? 0 : v[1] - 8;
            v[0] = v[0] > 98 ? 100 : v[0] + 2;
        }
        if (kind == 2) {
            v[0] = 0;
            v[1] = 0;
            v[2] = 0;
            v[3] = 0;
            v[4] = heat < 10 ? 10 : heat > 40 ? 40 : heat;
        }
    }

    static int hoursOf(int kind, int[] section) {
        return (kind == 2 ? 4 : kind + 1) + section[5];
    }

    long curve(int section, boolean is) {
        if (out(section, 0, 19)) {
            return INDEX;
        }
        int was = s[section][5];
        s[section][5] = is ? 1 : 0;
        return was;
    }

    long sign(int section, int speed) {
        if (out(section, 0, 19)) {
            return INDEX;
        }
        if (out(speed, 0, 160)) {
            return ARGUMENT;
        }
        int was = s[section][6];
        s[section][6] = speed;
        return was;
    }

    long pass(int trains, int newHeat, int days) {
        if (out(trains, 0, 40) || out(newHeat, -20, 60) || out(days, 1, 60)) {
            return ARGUMENT;
        }
        if (day + days > 2000) {
            return STATE;
        }
        long sum = 0;
        for (int d = 0; d < days; d++) {
            sum += oneDay(trains, newHeat);
        }
        return sum;
    }

    private int oneDay(int trains, int newHeat) {
        for (int i = 0; i < possessions; i++) {
            if (p[i][4] == day && p[i][0] == 0) {
                p[i][0] = 3;
            }
            if (p[i][4] == day && p[i][0] == 1) {
                end(i, 2);
            }
        }
        day++;
        heat = newHeat;
        for (int[] v : s) {
            step2(v, trains);
        }
        for (int[] v : s) {
            cost += trains * (160 - v[6]) / 80;
        }
        for (int[] v : s) {
            if (v[1] == 60 && v[6] > 0) {
                v[6] = 0;
                broke++;
            }
        }
        int count = 0;
        for (int[] v : s) {
            count += v[6] > speed(v, heat, v[4]) ? 1 : 0;
        }
        risks += count;
        return count;
    }

    // Of a measure: 0 track, 1 drift, 2 aligned.
    long measure(int track, int from, int to, int drift) {
        if (out(track, 0, 1) || out(from, 0, 9) || out(to, 0, 9)) {
            return INDEX;
        }
        if (to < from || out(drift, -2, 2)) {
            return ARGUMENT;
        }
        if (measures == 12) {
            return STATE;
        }
        m[measures] = new int[] {track, drift, 0};
        for (int k = from; k <= to; k++) {
            if (!out(k + drift, 0, 9)) {
                int[] v = s[track * 10 + k + drift];
                wrote[measures][k] = new int[] {v[0], v[1] < 5 ? 0 : v[1], v[2]};
            }
        }
        return measures++;
    }

    long align(int number) {
        if (out(number, 0, measures - 1)) {
            return INDEX;
        }
        if (m[number][2] == 1) {
            return STATE;
        }
        m[number][2] = 1;
        return m[number][1];
    }

    // Of a machine: 0 kind, 1 life, 2 works, 3 failures.
    long machine(int kind, int life) {
        if (out(kind, 0, 2) || out(life, 0, 99)) {
            return ARGUMENT;
        }
        if (machines == 4) {
            return STATE;
        }
        machine[machines] = new int[] {kind, life, 0, 0};
        return machines++;
    }

    private boolean has(int possession, int number) {
        for (int[] w : works[possession]) {
            if (w != null && w[1] == number) {
                return true;
            }
        }
        return false;
    }

    long service(int number) {
        if (out(number, 0, machines - 1)) {
            return INDEX;
        }
        for (int i = 0; i < possessions; i++) {
            if (p[i][0] == 1 && has(i, number)) {
                return STATE;
            }
        }
        cost += 200;
        int was = machine[number][1];
        machine[number][1] = 40;
        return was;
    }

    // Of a possession: as ofPossession tells, 8 the ends as bits.
    long book(int track, int from, int to, int forDay, int hours) {
        if (out(track, 0, 1) || out(from, 0, 9) || out(to, 0, 9)) {
            return INDEX;
        }
        if (to < from || out(forDay, day + 5, 2000) || out(hours, 2, 8)) {
            return ARGUMENT;
        }
        if (possessions == 16 || common(track, from, to, forDay)) {
            return STATE;
        }
        p[possessions] = new int[] {0, track, from, to, forDay, hours, 0, 0, 0, 0};
        return possessions++;
    }

    private boolean common(int track, int from, int to, int forDay) {
        for (int i = 0; i < possessions; i++) {
            for (int k = from; k <= to; k++) {
                if (p[i][4] == forDay && p[i][0] != 4 && in(i, track * 10 + k)) {
                    return true;
                }
            }
        }
        return false;
    }

    private boolean in(int possession, int section) {
        int[] v = p[possession];
        return section >= v[1] * 10 + v[2] && section <= v[1] * 10 + v[3];
    }

    long work(int possession, int section, int number) {
        if (out(possession, 0, possessions - 1) || out(number, 0, machines - 1) || out(section, 0, 19)) {
            return INDEX;
        }
        if (!in(possession, section)) {
            return ARGUMENT;
        }
        int[] v = p[possession];
        int hours = hoursOf(machine[number][0], s[section]);
        if (v[0] != 0 || v[6] == 6 || v[7] + hours > v[5]) {
            return STATE;
        }
        for (int i = 0; i < possessions; i++) {
            if (i != possession && p[i][4] == v[4] && p[i][0] < 2 && has(i, number)) {
                return STATE;
            }
        }
        works[possession][v[6]++] = new int[] {section, number, hours};
        v[7] += hours;
        return v[7];
    }

    long cancel(int possession) {
        if (out(possession, 0, possessions - 1)) {
            return INDEX;
        }
        int[] v = p[possession];
        if (v[0] != 0) {
            return STATE;
        }
        v[0] = 4;
        int fee = v[4] - day < 5 ? 10 * v[5] : 0;
        cost += fee;
        return fee;
    }

    long mark(int possession, int end) {
        if (out(possession, 0, possessions - 1) || out(end, 0, 1)) {
            return INDEX;
        }
        int[] v = p[possession];
        if (v[0] != 0 || v[4] != day || (v[8] >> end & 1) == 1) {
            return STATE;
        }
        v[8] |= 1 << end;
        return Integer.bitCount(v[8]);
    }

    long take(int possession) {
        if (out(possession, 0, possessions - 1)) {
            return INDEX;
        }
        int[] v = p[possession];
        if (v[0] != 0 || v[8] != 3) {
            return STATE;
        }
        v[0] = 1;
        return v[3] - v[2] + 1;
    }

    long giveBack(int possession) {
        if (out(possession, 0, possessions - 1)) {
            return INDEX;
        }
        if (p[possession][0] != 1) {
            return STATE;
        }
        return end(possession, 0);
    }

    private int end(int possession, int more) {
        int[] v = p[possession];
        int took = 0;
        for (int i = 0; i < v[6]; i++) {
            int[] w = works[possession][i];
            int[] by = machine[w[1]];
            took += w[2];
            if (by[1] >= w[2]) {
                by[1] -= w[2];
                by[2]++;
                treat(s[w[0]], by[0], heat);
                cost += by[0] == 2 ? 300 : 0;
            } else {
                by[1] = 0;
                by[3]++;
                took += 2;
            }
        }
        int over = (took > v[5] ? took - v[5] : 0) + more;
        v[0] = 2;
        v[9] = over;
        overruns += over;
        cost += 20 * v[5] + 30 * took + 100 * over;
        return over;
    }

    private boolean taken(int section) {
        for (int i = 0; i < possessions; i++) {
            if (p[i][0] == 1 && in(i, section)) {
                return true;
            }
        }
        return false;
    }

    long walk(int section, int sight) {
        if (out(section, 0, 19)) {
            return INDEX;
        }
        if (out(sight, 50, 2000)) {
            return ARGUMENT;
        }
        int other = (section + 10) % 20;
        int beside = taken(other) ? 0 : s[other][6];
        int greater = beside > s[section][6] ? beside : s[section][6];
        boolean safe = taken(section) || greater == 0 || sight * 36 >= 25 * 10 * greater;
        unsafe += safe ? 0 : 1;
        return safe ? 1 : 0;
    }

    long ofSection(int section, int what) {
        if (out(section, 0, 19)) {
            return INDEX;
        }
        if (out(what, 0, 7)) {
            return ARGUMENT;
        }
        return what == 7 ? speed(s[section], heat, s[section][4]) : s[section][what];
    }

    /** The latest measure that says something, what it says behind it. */
    private int[] latest(int section) {
        for (int i = measures - 1; i >= 0; i--) {
            int k = section % 10 - (m[i][2] == 1 ? m[i][1] : 0);
            if (m[i][0] == section / 10 && !out(k, 0, 9) && wrote[i][k] != null) {
                int[] w = wrote[i][k];
                return new int[] {w[0], w[1], w[2], i};
            }
        }
        return new int[] {0, 0, 0, -1};
    }

    long known(int section, int what) {
        if (out(section, 0, 19)) {
            return INDEX;
        }
        if (out(what, 0, 4)) {
            return ARGUMENT;
        }
        int[] v = latest(section);
        return what == 3 ? speed(v, heat, s[section][4]) : what == 4 ? v[3] : v[what];
    }

    long why(int section, boolean isKnown) {
        if (out(section, 0, 19)) {
            return INDEX;
        }
        return decides(isKnown ? latest(section) : s[section], heat, s[section][4]);
    }

    long ofMachine(int number, int what) {
        if (out(number, 0, machines - 1)) {
            return INDEX;
        }
        return out(what, 0, 3) ? ARGUMENT : machine[number][what];
    }

    long ofPossession(int possession, int what) {
        if (out(possession, 0, possessions - 1)) {
            return INDEX;
        }
        if (out(what, 0, 9)) {
            return ARGUMENT;
        }
        return what == 8 ? Integer.bitCount(p[possession][8]) : p[possession][what];
    }

    long many(int what) {
        if (out(what, 0, 16)) {
            return ARGUMENT;
        }
        int aligned = 0;
        for (int i = 0; i < measures; i++) {
            aligned += m[i][2];
        }
        int[] states = new int[5];
        for (int i = 0; i < possessions; i++) {
            states[p[i][0]]++;
        }
        int above = 0;
        int aboveKnown = 0;
        for (int i = 0; i < 20; i++) {
            above += s[i][6] > ofSection(i, 7) ? 1 : 0;
            aboveKnown += s[i][6] > known(i, 3) ? 1 : 0;
        }
        int[] all = {day, machines, measures, aligned, states[0], states[1], states[2], states[3], states[4], cost, risks, broke,
            unsafe, above, aboveKnown, heat, overruns};
        return all[what];
    }

    /** Ten times the mean, or the number of a refusal. */
    long sumOfWear(int track) {
        if (out(track, 0, 1)) {
            return INDEX;
        }
        long sum = 0;
        for (int k = 0; k < 10; k++) {
            sum += s[track * 10 + k][0];
        }
        return sum;
    }

    long couldSee(int section) {
        if (out(section, 0, 19)) {
            return INDEX;
        }
        for (int i = 0; i < measures; i++) {
            for (int k = 0; k < 10; k++) {
                if (wrote[i][k] != null && m[i][0] * 10 + k + m[i][1] == section && wrote[i][k][1] > 0) {
                    return i;
                }
            }
        }
        return -1;
    }

    long firstRisk(int section, int trains) {
        if (out(section, 0, 19)) {
            return INDEX;
        }
        if (out(trains, 0, 40)) {
            return ARGUMENT;
        }
        int[] v = s[section].clone();
        if (v[6] > speed(v, heat, v[4])) {
            return 0;
        }
        for (int d = 1; d <= 200; d++) {
            step2(v, trains);
            if (v[1] == 60 && v[6] > 0) {
                v[6] = 0;
            }
            if (v[6] > speed(v, heat, v[4])) {
                return d;
            }
        }
        return -1;
    }

    long bestWork(int section, int trains, int days) {
        if (out(section, 0, 19)) {
            return INDEX;
        }
        if (out(trains, 0, 40) || out(days, 1, 200)) {
            return ARGUMENT;
        }
        int[] sums = new int[4];
        for (int kind = 0; kind < 4; kind++) {
            int[] v = s[section].clone();
            treat(v, kind, heat);
            sums[kind] = kind == 3 ? 0 : 30 * hoursOf(kind, v) + (kind == 2 ? 300 : 0);
            for (int d = 0; d < days; d++) {
                step2(v, trains);
                sums[kind] += trains * (160 - speed(v, heat, v[4])) / 80;
            }
        }
        int best = 3;
        for (int kind = 3; kind >= 0; kind--) {
            best = sums[kind] <= sums[best] ? kind : best;
        }
        return best;
    }

    long freeDay(int track, int from, int to) {
        if (out(track, 0, 1) || out(from, 0, 9) || out(to, 0, 9)) {
            return INDEX;
        }
        if (to < from) {
            return ARGUMENT;
        }
        for (int d = day + 5; d <= 2000; d++) {
            if (!common(track, from, to, d)) {
                return d;
            }
        }
        return -1;
    }

    long wouldOverrun(int possession) {
        if (out(possession, 0, possessions - 1)) {
            return INDEX;
        }
        int[] v = p[possession];
        if (v[0] > 1) {
            return STATE;
        }
        int[] lives = new int[4];
        for (int i = 0; i < machines; i++) {
            lives[i] = machine[i][1];
        }
        int took = 0;
        for (int i = 0; i < v[6]; i++) {
            int[] w = works[possession][i];
            took += w[2];
            if (lives[w[1]] >= w[2]) {
                lives[w[1]] -= w[2];
            } else {
                lives[w[1]] = 0;
                took += 2;
            }
        }
        return took > v[5] ? took - v[5] : 0;
    }

    long digest() {
        long d = 4809;
        for (int w = 0; w < 17; w++) {
            d = d * 31 + many(w);
        }
        for (int i = 0; i < 20; i++) {
            for (int w = 0; w < 8; w++) {
                d = d * 31 + ofSection(i, w);
            }
            for (int w = 0; w < 5; w++) {
                d = d * 31 + known(i, w);
            }
            d = d * 31 + why(i, false);
            d = d * 31 + why(i, true);
            d = d * 31 + couldSee(i);
            d = d * 31 + firstRisk(i, 20);
            d = d * 31 + bestWork(i, 20, 30);
        }
        for (int i = 0; i < machines; i++) {
            for (int w = 0; w < 4; w++) {
                d = d * 31 + ofMachine(i, w);
            }
        }
        for (int i = 0; i < possessions; i++) {
            for (int w = 0; w < 10; w++) {
                d = d * 31 + ofPossession(i, w);
            }
        }
        d = d * 31 + freeDay(0, 0, 9);
        d = d * 31 + freeDay(1, 3, 5);
        return d;
    }
}

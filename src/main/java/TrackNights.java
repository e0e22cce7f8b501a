import java.util.ArrayList;

/** The upkeep of a railway's road, while trains run. */
public final class TrackNights {
    private static final int NONE = -1;

    private static final int TRACKS = 2;
    private static final int KILOMETRES = 10;
    private static final int SECTIONS = TRACKS * KILOMETRES;
    private static final int MOST_WEAR = 100;
    private static final int MOST_CRACK = 60;
    private static final int MOST_SETTLE = 60;
    private static final int FULL_SPEED = 160;

    private static final int LAST_DAY = 2000;
    private static final int MOST_DAYS_PASSED = 60;
    private static final int MOST_TRAINS = 40;
    private static final int LEAST_HEAT = -20;
    private static final int MOST_HEAT = 60;
    private static final int DAYS_LOOKED_AHEAD = 200;

    private static final int MOST_MEASURES = 12;
    private static final int MOST_DRIFT = 2;
    private static final int LEAST_CRACK_SEEN = 5;

    private static final int TAMPER = 0;
    private static final int GRINDER = 1;
    private static final int RENEWER = 2;
    private static final int NO_WORK = 3;
    private static final int MOST_MACHINES = 4;
    private static final int MOST_LIFE = 99;
    private static final int LIFE_AFTER_SERVICE = 40;

    private static final int BOOKED = 0;
    private static final int TAKEN = 1;
    private static final int GIVEN_BACK = 2;
    private static final int MISSED = 3;
    private static final int CANCELLED = 4;
    private static final int MOST_POSSESSIONS = 16;
    private static final int MOST_WORKS = 6;
    private static final int DAYS_OF_NOTICE = 5;
    private static final int LEAST_HOURS = 2;
    private static final int MOST_HOURS = 8;
    private static final int ENDS = 2;
    private static final int HOURS_LOST_BY_FAILURE = 2;
    private static final int HOURS_LATE = 2;

    private static final int COST_OF_SERVICE = 200;
    private static final int COST_OF_BOOKED_HOUR = 20;
    private static final int COST_OF_WORK_HOUR = 30;
    private static final int COST_OF_OVERRUN_HOUR = 100;
    private static final int COST_OF_RENEWING = 300;
    private static final int COST_OF_CANCELLED_HOUR = 10;

    private static final int LEAST_SIGHT = 50;
    private static final int MOST_SIGHT = 2000;
    private static final int SECONDS_OF_WARNING = 25;

    private final Section[] sections = new Section[SECTIONS];
    private final ArrayList<Measure> measures = new ArrayList<>();
    private final ArrayList<Machine> machines = new ArrayList<>();
    private final ArrayList<Possession> possessions = new ArrayList<>();
    private final Values unknown = new Values(0, 0, 0);
    /** What would be is tried on this one, so that no question makes an object. */
    private final Section trial = new Section();
    private int today = 0;
    private int heatNow = 20;
    private int cost = 0;
    private int risks = 0;
    private int breaks = 0;
    private int unsafeGangs = 0;
    private int overruns = 0;

    public TrackNights() {
        for (int i = 0; i < SECTIONS; i++) {
            sections[i] = new Section();
        }
    }

    // ---- the road

    public boolean curve(int section, boolean is) throws IndexOutOfBoundsException {
        Section road = sectionAt(section);
        boolean was = road.curve;
        road.curve = is;
        return was;
    }

    public int sign(int section, int speed) throws IndexOutOfBoundsException, IllegalArgumentException {
        Section road = sectionAt(section);
        if (speed < 0 || speed > FULL_SPEED) {
            throw new IllegalArgumentException("speed is not 0 to 160");
        }
        int before = road.sign;
        road.sign = speed;
        return before;
    }

    public int pass(int trains, int heat, int days) throws IllegalArgumentException, IllegalStateException {
        checkTrains(trains);
        if (heat < LEAST_HEAT || heat > MOST_HEAT) {
            throw new IllegalArgumentException("heat is not -20 to 60");
        }
        if (days < 1 || days > MOST_DAYS_PASSED) {
            throw new IllegalArgumentException("days is not 1 to 60");
        }
        if (today + days > LAST_DAY) {
            throw new IllegalStateException("the day would be above 2000");
        }
        int before = risks;
        for (int i = 0; i < days; i++) {
            passDay(trains, heat);
        }
        return risks - before;
    }

    // ---- measures

    public int measure(int track, int from, int to, int drift)
            throws IndexOutOfBoundsException, IllegalArgumentException, IllegalStateException {
        checkStretch(track, from, to);
        if (drift < -MOST_DRIFT || drift > MOST_DRIFT) {
            throw new IllegalArgumentException("drift is not -2 to 2");
        }
        if (measures.size() >= MOST_MEASURES) {
            throw new IllegalStateException("there were 12 measures");
        }
        Measure run = new Measure(track, drift);
        for (int kilometre = from; kilometre <= to; kilometre++) {
            int measured = kilometre + drift;
            if (measured >= 0 && measured < KILOMETRES) {
                run.write(kilometre, sections[track * KILOMETRES + measured].values);
            }
        }
        measures.add(run);
        return measures.size() - 1;
    }

    public int align(int measure) throws IndexOutOfBoundsException, IllegalStateException {
        if (measure < 0 || measure >= measures.size()) {
            throw new IndexOutOfBoundsException("no such measure");
        }
        Measure run = measures.get(measure);
        if (run.aligned) {
            throw new IllegalStateException("the measure is aligned");
        }
        run.aligned = true;
        return run.drift;
    }

    // ---- machines and nights

    public int machine(int kind, int life) throws IllegalArgumentException, IllegalStateException {
        if (kind < TAMPER || kind > RENEWER) {
            throw new IllegalArgumentException("kind is not 0 to 2");
        }
        if (life < 0 || life > MOST_LIFE) {
            throw new IllegalArgumentException("life is not 0 to 99");
        }
        if (machines.size() >= MOST_MACHINES) {
            throw new IllegalStateException("there are 4 machines");
        }
        machines.add(new Machine(kind, life));
        return machines.size() - 1;
    }

    public int service(int machine) throws IndexOutOfBoundsException, IllegalStateException {
        Machine tool = machineAt(machine);
        if (isOut(tool)) {
            throw new IllegalStateException("the machine is in a possession that is taken");
        }
        int before = tool.life;
        tool.life = LIFE_AFTER_SERVICE;
        cost += COST_OF_SERVICE;
        return before;
    }

    public int book(int track, int from, int to, int day, int hours)
            throws IndexOutOfBoundsException, IllegalArgumentException, IllegalStateException {
        checkStretch(track, from, to);
        if (day < today + DAYS_OF_NOTICE || day > LAST_DAY) {
            throw new IllegalArgumentException("day is less than 5 later, or above 2000");
        }
        if (hours < LEAST_HOURS || hours > MOST_HOURS) {
            throw new IllegalArgumentException("hours is not 2 to 8");
        }
        if (possessions.size() >= MOST_POSSESSIONS) {
            throw new IllegalStateException("there were 16 possessions");
        }
        if (!isFree(track, from, to, day)) {
            throw new IllegalStateException("another possession of that day has a section in common");
        }
        possessions.add(new Possession(track, from, to, day, hours));
        return possessions.size() - 1;
    }

    public int work(int possession, int section, int machine)
            throws IndexOutOfBoundsException, IllegalArgumentException, IllegalStateException {
        Possession night = possessionAt(possession);
        Machine tool = machineAt(machine);
        Section road = sectionAt(section);
        if (!night.has(section)) {
            throw new IllegalArgumentException("the section is not in the possession");
        }
        if (night.state != BOOKED) {
            throw new IllegalStateException("the possession is not booked");
        }
        if (night.works.size() >= MOST_WORKS) {
            throw new IllegalStateException("there are 6 works");
        }
        int hours = road.hoursFor(tool.kind);
        if (night.hoursPlanned() + hours > night.hours) {
            throw new IllegalStateException("the works would take too long");
        }
        if (isElsewhere(tool, night)) {
            throw new IllegalStateException("the machine is in another possession of that day");
        }
        night.works.add(new Work(road, tool, hours));
        return night.hoursPlanned();
    }

    public int cancel(int possession) throws IndexOutOfBoundsException, IllegalStateException {
        Possession night = possessionAt(possession);
        if (night.state != BOOKED) {
            throw new IllegalStateException("the possession is not booked");
        }
        int fee = night.day < today + DAYS_OF_NOTICE ? COST_OF_CANCELLED_HOUR * night.hours : 0;
        night.state = CANCELLED;
        cost += fee;
        return fee;
    }

    public int mark(int possession, int end) throws IndexOutOfBoundsException, IllegalStateException {
        Possession night = possessionAt(possession);
        if (end < 0 || end >= ENDS) {
            throw new IndexOutOfBoundsException("end is not 0 or 1");
        }
        if (night.state != BOOKED) {
            throw new IllegalStateException("the possession is not booked");
        }
        if (night.day != today) {
            throw new IllegalStateException("its day is not this one");
        }
        if (night.isMarked(end)) {
            throw new IllegalStateException("that end is marked");
        }
        night.putMark(end);
        return night.marks();
    }

    public int take(int possession) throws IndexOutOfBoundsException, IllegalStateException {
        Possession night = possessionAt(possession);
        if (night.state != BOOKED) {
            throw new IllegalStateException("the possession is not booked");
        }
        if (night.marks() < ENDS) {
            throw new IllegalStateException("not both ends are marked");
        }
        night.state = TAKEN;
        return night.to - night.from + 1;
    }

    public int giveBack(int possession) throws IndexOutOfBoundsException, IllegalStateException {
        Possession night = possessionAt(possession);
        if (night.state != TAKEN) {
            throw new IllegalStateException("the possession is not taken");
        }
        endNight(night, 0);
        return night.overrun;
    }

    public boolean walk(int section, int sight) throws IndexOutOfBoundsException, IllegalArgumentException {
        Section road = sectionAt(section);
        if (sight < LEAST_SIGHT || sight > MOST_SIGHT) {
            throw new IllegalArgumentException("sight is not 50 to 2000");
        }
        boolean safe = isTaken(section) || isWarned(road.sign, signBeside(section), sight);
        if (!safe) {
            unsafeGangs++;
        }
        return safe;
    }

    // ---- what is asked

    public int ofSection(int section, int what) throws IndexOutOfBoundsException, IllegalArgumentException {
        Section road = sectionAt(section);
        switch (what) {
            case 0: return road.values.wear;
            case 1: return road.values.crack;
            case 2: return road.values.settle;
            case 3: return road.tamps;
            case 4: return road.free;
            case 5: return road.curve ? 1 : 0;
            case 6: return road.sign;
            case 7: return road.trueSpeed(heatNow);
            default: throw new IllegalArgumentException("what is not 0 to 7");
        }
    }

    public int known(int section, int what) throws IndexOutOfBoundsException, IllegalArgumentException {
        Section road = sectionAt(section);
        Values values = knownValues(section);
        switch (what) {
            case 0: return values.wear;
            case 1: return values.crack;
            case 2: return values.settle;
            case 3: return values.speed(heatNow - road.free);
            case 4: return knowingMeasure(section);
            default: throw new IllegalArgumentException("what is not 0 to 4");
        }
    }

    public int why(int section, boolean isKnown) throws IndexOutOfBoundsException {
        Section road = sectionAt(section);
        Values values = isKnown ? knownValues(section) : road.values;
        return values.decider(heatNow - road.free);
    }

    public int ofMachine(int machine, int what) throws IndexOutOfBoundsException, IllegalArgumentException {
        Machine tool = machineAt(machine);
        switch (what) {
            case 0: return tool.kind;
            case 1: return tool.life;
            case 2: return tool.worksDone;
            case 3: return tool.failures;
            default: throw new IllegalArgumentException("what is not 0 to 3");
        }
    }

    public int ofPossession(int possession, int what) throws IndexOutOfBoundsException, IllegalArgumentException {
        Possession night = possessionAt(possession);
        switch (what) {
            case 0: return night.state;
            case 1: return night.track;
            case 2: return night.from;
            case 3: return night.to;
            case 4: return night.day;
            case 5: return night.hours;
            case 6: return night.works.size();
            case 7: return night.hoursPlanned();
            case 8: return night.marks();
            case 9: return night.overrun;
            default: throw new IllegalArgumentException("what is not 0 to 9");
        }
    }

    public int many(int what) throws IllegalArgumentException {
        switch (what) {
            case 0: return today;
            case 1: return machines.size();
            case 2: return measures.size();
            case 3: return countAligned();
            case 4: return countPossessions(BOOKED);
            case 5: return countPossessions(TAKEN);
            case 6: return countPossessions(GIVEN_BACK);
            case 7: return countPossessions(MISSED);
            case 8: return countPossessions(CANCELLED);
            case 9: return cost;
            case 10: return risks;
            case 11: return breaks;
            case 12: return unsafeGangs;
            case 13: return countTrueRisks();
            case 14: return countKnownRisks();
            case 15: return heatNow;
            case 16: return overruns;
            default: throw new IllegalArgumentException("what is not 0 to 16");
        }
    }

    public double meanWear(int track) throws IndexOutOfBoundsException {
        if (track < 0 || track >= TRACKS) {
            throw new IndexOutOfBoundsException("track is not 0 or 1");
        }
        int sum = 0;
        for (int kilometre = 0; kilometre < KILOMETRES; kilometre++) {
            sum += sections[track * KILOMETRES + kilometre].values.wear;
        }
        return sum / 10.0;
    }

    public int couldSee(int section) throws IndexOutOfBoundsException {
        checkSection(section);
        for (int i = 0; i < measures.size(); i++) {
            Values values = measures.get(i).writtenOf(section);
            if (values != null && values.crack > 0) {
                return i;
            }
        }
        return NONE;
    }

    // ---- what would be (nothing is changed)

    public int firstRisk(int section, int trains) throws IndexOutOfBoundsException, IllegalArgumentException {
        Section road = sectionAt(section);
        checkTrains(trains);
        trial.become(road);
        // A break needs no look: a crack bears nothing long before it is 60, so the risk comes first.
        for (int days = 0; days <= DAYS_LOOKED_AHEAD; days++) {
            if (trial.isRisk(heatNow)) {
                return days;
            }
            trial.bearDay(trains);
        }
        return NONE;
    }

    public int bestWork(int section, int trains, int days)
            throws IndexOutOfBoundsException, IllegalArgumentException {
        Section road = sectionAt(section);
        checkTrains(trains);
        if (days < 1 || days > DAYS_LOOKED_AHEAD) {
            throw new IllegalArgumentException("days is not 1 to 200");
        }
        int best = TAMPER;
        int least = costBehind(road, TAMPER, trains, days);
        for (int kind = GRINDER; kind <= NO_WORK; kind++) {
            int sum = costBehind(road, kind, trains, days);
            if (sum < least) {
                best = kind;
                least = sum;
            }
        }
        return best;
    }

    public int freeDay(int track, int from, int to) throws IndexOutOfBoundsException, IllegalArgumentException {
        checkStretch(track, from, to);
        for (int day = today + DAYS_OF_NOTICE; day <= LAST_DAY; day++) {
            if (isFree(track, from, to, day)) {
                return day;
            }
        }
        return NONE;
    }

    public int wouldOverrun(int possession) throws IndexOutOfBoundsException, IllegalStateException {
        Possession night = possessionAt(possession);
        if (!night.isComingOrTaken()) {
            throw new IllegalStateException("the possession is neither booked nor taken");
        }
        return Math.max(0, hoursTaken(night) - night.hours);
    }

    public long digest() {
        long d = 4809;
        for (int what = 0; what <= 16; what++) {
            d = d * 31 + many(what);
        }
        for (int section = 0; section < SECTIONS; section++) {
            d = digestSection(d, section);
        }
        for (int machine = 0; machine < machines.size(); machine++) {
            for (int what = 0; what <= 3; what++) {
                d = d * 31 + ofMachine(machine, what);
            }
        }
        for (int possession = 0; possession < possessions.size(); possession++) {
            for (int what = 0; what <= 9; what++) {
                d = d * 31 + ofPossession(possession, what);
            }
        }
        d = d * 31 + freeDay(0, 0, 9);
        return d * 31 + freeDay(1, 3, 5);
    }

    private long digestSection(long before, int section) {
        long d = before;
        for (int what = 0; what <= 7; what++) {
            d = d * 31 + ofSection(section, what);
        }
        for (int what = 0; what <= 4; what++) {
            d = d * 31 + known(section, what);
        }
        d = d * 31 + why(section, false);
        d = d * 31 + why(section, true);
        d = d * 31 + couldSee(section);
        d = d * 31 + firstRisk(section, 20);
        return d * 31 + bestWork(section, 20, 30);
    }

    // ---- what the calls look at before they change anything

    private void checkSection(int section) {
        if (section < 0 || section >= SECTIONS) {
            throw new IndexOutOfBoundsException("section is not 0 to 19");
        }
    }

    private Section sectionAt(int section) {
        checkSection(section);
        return sections[section];
    }

    private Machine machineAt(int machine) {
        if (machine < 0 || machine >= machines.size()) {
            throw new IndexOutOfBoundsException("no such machine");
        }
        return machines.get(machine);
    }

    private Possession possessionAt(int possession) {
        if (possession < 0 || possession >= possessions.size()) {
            throw new IndexOutOfBoundsException("no such possession");
        }
        return possessions.get(possession);
    }

    private void checkStretch(int track, int from, int to) {
        if (track < 0 || track >= TRACKS) {
            throw new IndexOutOfBoundsException("track is not 0 or 1");
        }
        if (from < 0 || from >= KILOMETRES || to < 0 || to >= KILOMETRES) {
            throw new IndexOutOfBoundsException("from or to is not 0 to 9");
        }
        if (to < from) {
            throw new IllegalArgumentException("to is below from");
        }
    }

    private void checkTrains(int trains) {
        if (trains < 0 || trains > MOST_TRAINS) {
            throw new IllegalArgumentException("trains is not 0 to 40");
        }
    }

    // ---- how a day goes by

    private void passDay(int trains, int heat) {
        // The nights end before the heat changes: a rail that they renewed has the heat of its night.
        endNightsOf(today);
        today++;
        heatNow = heat;
        for (int i = 0; i < SECTIONS; i++) {
            sections[i].bearDay(trains);
            cost += delayCost(trains, sections[i].sign);
            breakIfCracked(sections[i]);
            if (sections[i].isRisk(heatNow)) {
                risks++;
            }
        }
    }

    private void endNightsOf(int day) {
        for (int i = 0; i < possessions.size(); i++) {
            Possession night = possessions.get(i);
            if (night.day == day && night.state == BOOKED) {
                night.state = MISSED;
            } else if (night.day == day && night.state == TAKEN) {
                endNight(night, HOURS_LATE);
            }
        }
    }

    private void breakIfCracked(Section road) {
        if (road.values.crack >= MOST_CRACK && road.sign > 0) {
            road.sign = 0;
            breaks++;
        }
    }

    private static int delayCost(int trains, int speed) {
        return trains * (FULL_SPEED - speed) / 80;
    }

    // ---- how the questions are answered

    private int knowingMeasure(int section) {
        for (int i = measures.size() - 1; i >= 0; i--) {
            if (measures.get(i).says(section) != null) {
                return i;
            }
        }
        return NONE;
    }

    private Values knownValues(int section) {
        int number = knowingMeasure(section);
        if (number < 0 || number >= measures.size()) {
            return unknown;
        }
        Values values = measures.get(number).says(section);
        return values == null ? unknown : values;
    }

    // ---- how nights are kept apart and end

    private boolean isOut(Machine tool) {
        for (int i = 0; i < possessions.size(); i++) {
            Possession night = possessions.get(i);
            if (night.state == TAKEN && night.uses(tool)) {
                return true;
            }
        }
        return false;
    }

    private boolean isElsewhere(Machine tool, Possession here) {
        for (int i = 0; i < possessions.size(); i++) {
            Possession night = possessions.get(i);
            if (night != here && night.day == here.day && night.isComingOrTaken() && night.uses(tool)) {
                return true;
            }
        }
        return false;
    }

    private boolean isFree(int track, int from, int to, int day) {
        for (int i = 0; i < possessions.size(); i++) {
            Possession night = possessions.get(i);
            if (night.day == day && night.state != CANCELLED && night.meets(track, from, to)) {
                return false;
            }
        }
        return true;
    }

    private boolean isTaken(int section) {
        for (int i = 0; i < possessions.size(); i++) {
            Possession night = possessions.get(i);
            if (night.state == TAKEN && night.has(section)) {
                return true;
            }
        }
        return false;
    }

    private int signBeside(int section) {
        int other = section < KILOMETRES ? section + KILOMETRES : section - KILOMETRES;
        return isTaken(other) ? 0 : sectionAt(other).sign;
    }

    private static boolean isWarned(int sign, int signBeside, int sight) {
        int fastest = Math.max(sign, signBeside);
        return fastest <= 0 || sight * 36 / (10 * fastest) >= SECONDS_OF_WARNING;
    }

    private void endNight(Possession night, int hoursLate) {
        int taken = hoursTaken(night);
        for (int i = 0; i < night.works.size(); i++) {
            carryOut(night.works.get(i));
        }
        night.state = GIVEN_BACK;
        night.overrun = Math.max(0, taken - night.hours) + hoursLate;
        overruns += night.overrun;
        cost += COST_OF_BOOKED_HOUR * night.hours;
        cost += COST_OF_WORK_HOUR * taken;
        cost += COST_OF_OVERRUN_HOUR * night.overrun;
    }

    private void carryOut(Work job) {
        if (job.machine.life < job.hours) {
            job.machine.life = 0;
            job.machine.failures++;
            return;
        }
        job.machine.life -= job.hours;
        job.machine.worksDone++;
        job.section.treat(job.machine.kind, heatNow);
        if (job.machine.kind == RENEWER) {
            cost += COST_OF_RENEWING;
        }
    }

    private int hoursTaken(Possession night) {
        // Machine by machine, since the life of one never depends on another.
        int hours = 0;
        for (int i = 0; i < machines.size(); i++) {
            hours += night.hoursTakenBy(machines.get(i));
        }
        return hours;
    }

    private int costBehind(Section road, int kind, int trains, int days) {
        trial.become(road);
        int sum = 0;
        if (kind != NO_WORK) {
            trial.treat(kind, heatNow);
            sum = COST_OF_WORK_HOUR * road.hoursFor(kind);
        }
        if (kind == RENEWER) {
            sum += COST_OF_RENEWING;
        }
        for (int i = 0; i < days; i++) {
            trial.bearDay(trains);
            sum += delayCost(trains, trial.trueSpeed(heatNow));
        }
        return sum;
    }

    // ---- what is counted when it is asked, so that nothing can go out of step

    private int countAligned() {
        int count = 0;
        for (int i = 0; i < measures.size(); i++) {
            if (measures.get(i).aligned) {
                count++;
            }
        }
        return count;
    }

    private int countPossessions(int state) {
        int count = 0;
        for (int i = 0; i < possessions.size(); i++) {
            if (possessions.get(i).state == state) {
                count++;
            }
        }
        return count;
    }

    private int countTrueRisks() {
        int count = 0;
        for (int i = 0; i < SECTIONS; i++) {
            if (sections[i].isRisk(heatNow)) {
                count++;
            }
        }
        return count;
    }

    private int countKnownRisks() {
        int count = 0;
        for (int i = 0; i < SECTIONS; i++) {
            Section road = sections[i];
            if (road.sign > knownValues(i).speed(heatNow - road.free)) {
                count++;
            }
        }
        return count;
    }

    /** One class for what is and what a measure wrote, so that both bear a speed by the same rule. */
    private static final class Values {
        private int wear;
        private int crack;
        private int settle;

        Values(int wear, int crack, int settle) {
            this.wear = wear;
            this.crack = crack;
            this.settle = settle;
        }

        /** The speed with a heat that is so much above the one without stress. */
        int speed(int stress) {
            int byRail = Math.min(speedByWear(), speedByCrack());
            return Math.min(byRail, Math.min(speedBySettle(), speedByHeat(stress)));
        }

        int decider(int stress) {
            int least = speed(stress);
            if (least == FULL_SPEED) {
                return 0;
            }
            if (speedByWear() == least) {
                return 1;
            }
            if (speedByCrack() == least) {
                return 2;
            }
            return speedBySettle() == least ? 3 : 4;
        }

        private int speedByWear() {
            if (wear < 60) {
                return FULL_SPEED;
            }
            if (wear < 80) {
                return 100;
            }
            return wear < 100 ? 60 : 20;
        }

        private int speedByCrack() {
            if (crack < 10) {
                return FULL_SPEED;
            }
            if (crack < 20) {
                return 80;
            }
            return crack < 40 ? 40 : 0;
        }

        private int speedBySettle() {
            if (settle < 20) {
                return FULL_SPEED;
            }
            if (settle < 30) {
                return 120;
            }
            if (settle < 40) {
                return 80;
            }
            return settle < 50 ? 40 : 10;
        }

        private static int speedByHeat(int stress) {
            if (stress > 30) {
                return 40;
            }
            if (stress > 20) {
                return 80;
            }
            return stress < -40 ? 100 : FULL_SPEED;
        }
    }

    private static final class Section {
        private final Values values = new Values(0, 0, 0);
        private int tamps = 0;
        private int free = 27;
        private boolean curve = false;
        private int sign = FULL_SPEED;

        void become(Section other) {
            values.wear = other.values.wear;
            values.crack = other.values.crack;
            values.settle = other.values.settle;
            tamps = other.tamps;
            free = other.free;
            curve = other.curve;
            sign = other.sign;
        }

        int trueSpeed(int heat) {
            return values.speed(heat - free);
        }

        boolean isRisk(int heat) {
            return sign > trueSpeed(heat);
        }

        void bearDay(int trains) {
            int worn = curve ? trains / 4 : trains / 8;
            values.wear = Math.min(MOST_WEAR, values.wear + worn);
            values.crack = Math.min(MOST_CRACK, values.crack + crackGrowth());
            values.settle = Math.min(MOST_SETTLE, values.settle + (trains + 5 * tamps) / 10);
        }

        private int crackGrowth() {
            if (values.crack > 0) {
                return 1 + values.crack / 8;
            }
            return values.wear >= 50 ? 1 : 0;
        }

        int hoursFor(int kind) {
            int more = curve ? 1 : 0;
            switch (kind) {
                case TAMPER: return 1 + more;
                case GRINDER: return 2 + more;
                default: return 4 + more;
            }
        }

        void treat(int kind, int heat) {
            if (kind == TAMPER) {
                values.settle = values.settle / 4;
                tamps++;
            } else if (kind == GRINDER) {
                values.crack = Math.max(0, values.crack - 8);
                values.wear = Math.min(MOST_WEAR, values.wear + 2);
            } else {
                values.wear = 0;
                values.crack = 0;
                values.settle = 0;
                tamps = 0;
                free = Math.max(10, Math.min(40, heat));
            }
        }
    }

    private static final class Measure {
        private final int track;
        private final int drift;
        private boolean aligned = false;
        /** By the kilometre that it was written for; null where nothing was. */
        private final Values[] written = new Values[KILOMETRES];

        Measure(int track, int drift) {
            this.track = track;
            this.drift = drift;
        }

        void write(int kilometre, Values values) {
            if (kilometre >= 0 && kilometre < KILOMETRES) {
                int seen = values.crack < LEAST_CRACK_SEEN ? 0 : values.crack;
                written[kilometre] = new Values(values.wear, seen, values.settle);
            }
        }

        /** What this says of a section, or null. */
        Values says(int section) {
            return writtenFor(section, aligned ? drift : 0);
        }

        /** What was written of a section, whichever kilometre it was taken for; or null. */
        Values writtenOf(int section) {
            return writtenFor(section, drift);
        }

        private Values writtenFor(int section, int less) {
            int kilometre = section % KILOMETRES - less;
            if (section / KILOMETRES != track || kilometre < 0 || kilometre >= KILOMETRES) {
                return null;
            }
            return written[kilometre];
        }
    }

    private static final class Machine {
        private final int kind;
        private int life;
        private int worksDone = 0;
        private int failures = 0;

        Machine(int kind, int life) {
            this.kind = kind;
            this.life = life;
        }
    }

    private static final class Work {
        private final Section section;
        private final Machine machine;
        /** Kept, since the section may become a curve, or none, after the work was put in. */
        private final int hours;

        Work(Section section, Machine machine, int hours) {
            this.section = section;
            this.machine = machine;
            this.hours = hours;
        }
    }

    private static final class Possession {
        private final int track;
        private final int from;
        private final int to;
        private final int day;
        private final int hours;
        private final ArrayList<Work> works = new ArrayList<>();
        private int state = BOOKED;
        private boolean firstMarked = false;
        private boolean secondMarked = false;
        private int overrun = 0;

        Possession(int track, int from, int to, int day, int hours) {
            this.track = track;
            this.from = from;
            this.to = to;
            this.day = day;
            this.hours = hours;
        }

        boolean has(int section) {
            int kilometre = section % KILOMETRES;
            return section / KILOMETRES == track && kilometre >= from && kilometre <= to;
        }

        boolean meets(int otherTrack, int otherFrom, int otherTo) {
            return track == otherTrack && from <= otherTo && otherFrom <= to;
        }

        boolean isComingOrTaken() {
            return state == BOOKED || state == TAKEN;
        }

        boolean isMarked(int end) {
            return end == 0 ? firstMarked : secondMarked;
        }

        void putMark(int end) {
            if (end == 0) {
                firstMarked = true;
            } else {
                secondMarked = true;
            }
        }

        int marks() {
            return (firstMarked ? 1 : 0) + (secondMarked ? 1 : 0);
        }

        boolean uses(Machine tool) {
            for (int i = 0; i < works.size(); i++) {
                if (works.get(i).machine == tool) {
                    return true;
                }
            }
            return false;
        }

        int hoursPlanned() {
            int sum = 0;
            for (int i = 0; i < works.size(); i++) {
                sum += works.get(i).hours;
            }
            return sum;
        }

        /** The hours of its works with this machine, as its life would go down from now. */
        int hoursTakenBy(Machine tool) {
            int life = tool.life;
            int sum = 0;
            for (int i = 0; i < works.size(); i++) {
                Work job = works.get(i);
                if (job.machine == tool) {
                    boolean fails = life < job.hours;
                    life = fails ? 0 : life - job.hours;
                    sum += fails ? job.hours + HOURS_LOST_BY_FAILURE : job.hours;
                }
            }
            return sum;
        }
    }
}

/**
 * A place of snow sculptures; ../shared/DOC.md says what each method promises.
 *
 * Every operation that an order can name has three parts: a method ...Refusal that tells which
 * exception it deserves, the face's method, and the change itself in State. So an order can be
 * tried without throwing, and nothing is changed before all tests have passed.
 */
public final class SnowSites {
    public static final int NONE = -1;

    private static final int SITES = 8;
    private static final int LEVELS = 6;
    private static final int KINDS = 3;
    private static final int UNITS_OF_BLOCK = 100;
    private static final int MOST_SNOW = 9999;
    private static final int MOST_STOCK = 50;
    private static final int MOST_TOOLS = 5;
    private static final int MOST_SPEED = 20;
    private static final int MINUTES_OF_HOUR = 60;
    private static final int HOURS_OF_DAY = 12;
    private static final int FIRST_HOUR_IN_SOUTH = 4;
    private static final int FIRST_HOUR_IN_WEST = 8;
    private static final int MOST_BALLOTS = 20;
    private static final int SITES_OF_BALLOT = 3;
    private static final int MOST_BYTES = 150;
    private static final int MOST_NUMBERS = 4;
    private static final int MOST_DIGITS = 4;
    private static final int MOST_HOURS_OF_ORDER = 24;
    private static final int MOST_SAVED = 4;
    private static final int MOST_HOURS_AHEAD = 48;
    private static final int MOST_HOURS_TO_GO = 200;
    private static final int VALUES_OF_BLOCK = 3;
    private static final int VALUES_OF_SITE = 5;
    private static final int VALUES_OF_TOOL = 3;
    private static final int VALUES_OF_WHOLE = 16;
    private static final int FAULT_BASE = -10;
    private static final long DIGEST_START = 43420;

    private static final int ALLOWED = 0;
    private static final int NO_SUCH_INDEX = 1;
    private static final int BAD_ARGUMENT = 2;
    private static final int BAD_STATE = 3;

    private static final Word[] WORDS = Word.values();

    private final State now = new State();
    private final UndoStack saved = new UndoStack();
    private final OrderText orders = new OrderText();
    private final Count count = new Count();
    // What-if questions melt this copy; made once, because no call may leave rows behind.
    private final Stacks trial = new Stacks();

    public SnowSites() {
    }

    // ---- snow, blocks, tools

    public int addSnow(int units) throws IllegalArgumentException, IllegalStateException {
        throwFor(snowRefusal(units));
        saved.push(now);
        now.takeSnow(units);
        return now.snow;
    }

    public int press(int kind, int blocks) throws IllegalArgumentException, IllegalStateException {
        throwFor(pressRefusal(kind, blocks));
        saved.push(now);
        now.makeBlocks(kind, blocks);
        return now.stock[kind];
    }

    public int stack(int site, int kind)
            throws IndexOutOfBoundsException, IllegalArgumentException, IllegalStateException {
        throwFor(stackRefusal(site, kind));
        saved.push(now);
        now.putBlock(site, kind);
        return now.stacks.heights[site] - 1;
    }

    public int setWall(int site, boolean wall) throws IndexOutOfBoundsException {
        throwFor(siteRefusal(site));
        saved.push(now);
        now.stacks.walls[site] = wall ? 1 : 0;
        return sum(now.stacks.walls);
    }

    public int addTool(int speed) throws IllegalArgumentException, IllegalStateException {
        throwFor(toolRefusal(speed));
        saved.push(now);
        now.tools.add(speed);
        return now.tools.size - 1;
    }

    public int carve(int tool, int site, int level, int units)
            throws IndexOutOfBoundsException, IllegalArgumentException, IllegalStateException {
        throwFor(carveRefusal(tool, site, level, units));
        saved.push(now);
        return now.cutOff(tool, site, level, units);
    }

    public int recycle() {
        saved.push(now);
        return now.putOffcutsBack();
    }

    // ---- hours and ballots

    public int hour(boolean cloudy) {
        saved.push(now);
        return now.passHours(1, cloudy);
    }

    public int ballot(int first, int second, int third) throws IllegalArgumentException, IllegalStateException {
        throwFor(ballotRefusal(first, second, third));
        saved.push(now);
        now.ballots.add(first, second, third);
        return now.ballots.size;
    }

    public int clearBallots() {
        saved.push(now);
        int before = now.ballots.size;
        now.ballots.size = 0;
        return before;
    }

    // ---- values

    public int block(int site, int level, int what) throws IndexOutOfBoundsException, IllegalArgumentException {
        throwFor(siteRefusal(site));
        if (!isWithin(level, 0, LEVELS - 1) || !isWithin(what, 0, VALUES_OF_BLOCK - 1)) {
            throw new IllegalArgumentException("level or what is out of range");
        }
        if (!now.stacks.hasBlock(site, level)) {
            return NONE;
        }
        switch (what) {
            case 0:
                return now.stacks.kinds[placeOf(site, level)];
            case 1:
                return now.stacks.volumes[placeOf(site, level)];
            default:
                return now.stacks.facesInSun(site, level, now.hourOfDay);
        }
    }

    public int site(int site, int what) throws IndexOutOfBoundsException, IllegalArgumentException {
        throwFor(siteRefusal(site));
        switch (what) {
            case 0:
                return now.stacks.heights[site];
            case 1:
                return now.stacks.volumeOf(site);
            case 2:
                return now.stacks.walls[site];
            case 3:
                return now.stacks.carved[site];
            case 4:
                return now.stacks.melted[site];
            default:
                throw new IllegalArgumentException("what is out of range");
        }
    }

    public int tool(int tool, int what) throws IndexOutOfBoundsException, IllegalArgumentException {
        if (!isTool(tool)) {
            throw new IndexOutOfBoundsException("no such tool");
        }
        switch (what) {
            case 0:
                return now.tools.speeds[tool];
            case 1:
                return now.tools.minutesLeft[tool];
            case 2:
                return now.tools.minutesUsed[tool];
            default:
                throw new IllegalArgumentException("what is out of range");
        }
    }

    public int whole(int what) throws IllegalArgumentException {
        switch (what) {
            case 0:
                return now.snow;
            case 1:
            case 2:
            case 3:
                return now.stock[what - 1];
            case 4:
                return now.blocksMade;
            case 5:
                return now.stacks.sculptures();
            case 6:
                return now.stacks.volumeOfAll();
            case 7:
                return now.offcuts;
            case 8:
                return sum(now.stacks.melted);
            case 9:
                return now.putBack;
            case 10:
                return now.tools.size;
            case 11:
                return sum(now.stacks.walls);
            case 12:
                return now.hourOfDay;
            case 13:
                return now.day;
            case 14:
                return now.ballots.size;
            case 15:
                return orders.length;
            default:
                throw new IllegalArgumentException("what is out of range");
        }
    }

    public int rounds() {
        count.take(now.stacks, now.ballots);
        return count.roundsHeld;
    }

    public int votes(int round, int site) throws IllegalArgumentException, IndexOutOfBoundsException {
        if (round < 0) {
            throw new IllegalArgumentException("round is negative");
        }
        throwFor(siteRefusal(site));
        count.take(now.stacks, now.ballots);
        return count.votesIn(round, site);
    }

    public int winner() {
        count.take(now.stacks, now.ballots);
        return count.winningSite;
    }

    // ---- what if, which changes nothing

    public int reason(int tool, int site, int level, int units)
            throws IndexOutOfBoundsException, IllegalArgumentException {
        throwFor(carveArgumentsRefusal(tool, site, level, units));
        return now.reasonAgainst(tool, site, level, units);
    }

    public int volumeIn(int site, int hours) throws IndexOutOfBoundsException, IllegalArgumentException {
        throwFor(siteRefusal(site));
        if (!isWithin(hours, 0, MOST_HOURS_AHEAD)) {
            throw new IllegalArgumentException("hours is out of range");
        }
        trial.copyFrom(now.stacks);
        meltTrial(hours);
        return trial.volumeOf(site);
    }

    public int goneIn(int site) throws IndexOutOfBoundsException {
        throwFor(siteRefusal(site));
        if (!now.stacks.hasBlock(site, 0)) {
            return NONE;
        }
        trial.copyFrom(now.stacks);
        for (int hours = 1; hours <= MOST_HOURS_TO_GO; hours++) {
            trial.melt((now.hourOfDay + hours - 1) % HOURS_OF_DAY);
            if (!trial.hasBlock(site, 0)) {
                return hours;
            }
        }
        return NONE;
    }

    public int bestWall() {
        trial.copyFrom(now.stacks);
        int meltsWithout = meltTrial(HOURS_OF_DAY);
        int best = NONE;
        int mostSaved = 0;
        for (int site = 0; site < SITES; site++) {
            if (now.stacks.walls[site] == 0) {
                trial.copyFrom(now.stacks);
                trial.walls[site] = 1;
                int savedUnits = meltsWithout - meltTrial(HOURS_OF_DAY);
                if (savedUnits > mostSaved) {
                    mostSaved = savedUnits;
                    best = site;
                }
            }
        }
        return best;
    }

    public int minutesFor(int tool, int units) throws IndexOutOfBoundsException, IllegalArgumentException {
        if (!isTool(tool)) {
            throw new IndexOutOfBoundsException("no such tool");
        }
        if (!isWithin(units, 0, MOST_SNOW)) {
            throw new IllegalArgumentException("units is out of range");
        }
        return now.tools.minutesToCarve(tool, units);
    }

    // ---- order text, undo and checksum

    public int type(int value) throws IllegalArgumentException, IllegalStateException {
        if (!isWithin(value, 0, 127)) {
            throw new IllegalArgumentException("value is out of range");
        }
        if (orders.length >= MOST_BYTES) {
            throw new IllegalStateException("the order text is full");
        }
        orders.append(value);
        return orders.length;
    }

    public int clearOrders() {
        int before = orders.length;
        orders.length = 0;
        return before;
    }

    public int runOrders() {
        int fault = orders.firstFault();
        if (fault != NONE) {
            return FAULT_BASE - fault;
        }
        saved.push(now);
        orders.rewind();
        int done = 0;
        for (int i = 0; i < MOST_BYTES; i++) {
            if (!orders.readOrder() || !carryOut(orders.word, orders.numbers)) {
                break;
            }
            done++;
        }
        return done;
    }

    public int undo() throws IllegalStateException {
        if (saved.size == 0) {
            throw new IllegalStateException("no state is saved");
        }
        saved.pop(now);
        return saved.size;
    }

    public long digest() {
        long hash = mix(DIGEST_START, saved.size);
        for (int what = 0; what < VALUES_OF_WHOLE; what++) {
            hash = mix(hash, whole(what));
        }
        for (int site = 0; site < SITES; site++) {
            hash = mixSite(hash, site);
        }
        for (int tool = 0; tool < now.tools.size; tool++) {
            for (int what = 0; what < VALUES_OF_TOOL; what++) {
                hash = mix(hash, tool(tool, what));
            }
        }
        return mix(mixCount(hash), bestWall());
    }

    // ---- parts of the digest

    private static long mix(long hash, int value) {
        return 31 * hash + value;
    }

    private long mixSite(long start, int site) {
        long hash = start;
        for (int what = 0; what < VALUES_OF_SITE; what++) {
            hash = mix(hash, site(site, what));
        }
        for (int level = 0; level < now.stacks.heights[site]; level++) {
            for (int what = 0; what < VALUES_OF_BLOCK; what++) {
                hash = mix(hash, block(site, level, what));
            }
        }
        return hash;
    }

    private long mixCount(long start) {
        count.take(now.stacks, now.ballots);
        long hash = mix(start, count.roundsHeld);
        for (int round = 0; round < count.roundsHeld; round++) {
            for (int site = 0; site < SITES; site++) {
                hash = mix(hash, count.votesIn(round, site));
            }
        }
        return mix(hash, count.winningSite);
    }

    // ---- what an operation is refused for

    private static void throwFor(int refusal) {
        switch (refusal) {
            case NO_SUCH_INDEX:
                throw new IndexOutOfBoundsException("no such site or tool");
            case BAD_ARGUMENT:
                throw new IllegalArgumentException("an argument is out of range");
            case BAD_STATE:
                throw new IllegalStateException("it cannot be done now");
            default:
                return;
        }
    }

    private int snowRefusal(int units) {
        if (!isWithin(units, 1, MOST_SNOW)) {
            return BAD_ARGUMENT;
        }
        return now.snow + units > MOST_SNOW ? BAD_STATE : ALLOWED;
    }

    private int pressRefusal(int kind, int blocks) {
        if (!isWithin(kind, 0, KINDS - 1) || !isWithin(blocks, 1, MOST_STOCK)) {
            return BAD_ARGUMENT;
        }
        boolean tooLittle = now.snow < blocks * UNITS_OF_BLOCK;
        return tooLittle || now.stock[kind] + blocks > MOST_STOCK ? BAD_STATE : ALLOWED;
    }

    private int stackRefusal(int site, int kind) {
        if (!isSite(site)) {
            return NO_SUCH_INDEX;
        }
        if (!isWithin(kind, 0, KINDS - 1)) {
            return BAD_ARGUMENT;
        }
        return now.stock[kind] == 0 || now.stacks.heights[site] >= LEVELS ? BAD_STATE : ALLOWED;
    }

    private static int siteRefusal(int site) {
        return isSite(site) ? ALLOWED : NO_SUCH_INDEX;
    }

    private int toolRefusal(int speed) {
        if (!isWithin(speed, 1, MOST_SPEED)) {
            return BAD_ARGUMENT;
        }
        return now.tools.size >= MOST_TOOLS ? BAD_STATE : ALLOWED;
    }

    private int carveArgumentsRefusal(int tool, int site, int level, int units) {
        if (!isTool(tool) || !isSite(site)) {
            return NO_SUCH_INDEX;
        }
        boolean known = isWithin(level, 0, LEVELS - 1) && isWithin(units, 1, UNITS_OF_BLOCK);
        return known ? ALLOWED : BAD_ARGUMENT;
    }

    private int carveRefusal(int tool, int site, int level, int units) {
        int refusal = carveArgumentsRefusal(tool, site, level, units);
        if (refusal != ALLOWED) {
            return refusal;
        }
        return now.reasonAgainst(tool, site, level, units) == 0 ? ALLOWED : BAD_STATE;
    }

    private int ballotRefusal(int first, int second, int third) {
        if (!isSite(first) || !isSiteOrNone(second) || !isSiteOrNone(third)) {
            return BAD_ARGUMENT;
        }
        if (second == NONE && third != NONE) {
            return BAD_ARGUMENT;
        }
        if (first == second || first == third || (second == third && second != NONE)) {
            return BAD_ARGUMENT;
        }
        return now.ballots.size >= MOST_BALLOTS ? BAD_STATE : ALLOWED;
    }

    private static int hoursRefusal(int hours) {
        return isWithin(hours, 1, MOST_HOURS_OF_ORDER) ? ALLOWED : BAD_ARGUMENT;
    }

    // ---- orders

    private boolean carryOut(Word word, int[] numbers) {
        if (word == null || numbers.length < MOST_NUMBERS || orderRefusal(word, numbers) != ALLOWED) {
            return false;
        }
        switch (word) {
            case SNOW:
                now.takeSnow(numbers[0]);
                break;
            case PRESS:
                now.makeBlocks(numbers[0], numbers[1]);
                break;
            case STACK:
                now.putBlock(numbers[0], numbers[1]);
                break;
            case TOOL:
                now.tools.add(numbers[0]);
                break;
            case CARVE:
                now.cutOff(numbers[0], numbers[1], numbers[2], numbers[3]);
                break;
            case WALL:
                now.stacks.walls[numbers[0]] = 1;
                break;
            case SUN:
                now.passHours(numbers[0], false);
                break;
            case CLOUD:
                now.passHours(numbers[0], true);
                break;
            default:
                now.putOffcutsBack();
                break;
        }
        return true;
    }

    /** Only for a word that is there, with MOST_NUMBERS numbers: carryOut has looked at both. */
    private int orderRefusal(Word word, int[] numbers) {
        switch (word) {
            case SNOW:
                return snowRefusal(numbers[0]);
            case PRESS:
                return pressRefusal(numbers[0], numbers[1]);
            case STACK:
                return stackRefusal(numbers[0], numbers[1]);
            case TOOL:
                return toolRefusal(numbers[0]);
            case CARVE:
                return carveRefusal(numbers[0], numbers[1], numbers[2], numbers[3]);
            case WALL:
                return siteRefusal(numbers[0]);
            case SUN:
            case CLOUD:
                return hoursRefusal(numbers[0]);
            default:
                return ALLOWED;
        }
    }

    // ---- small helpers

    /** Melts the trial stacks from the present hour on; the units that melt. */
    private int meltTrial(int hours) {
        int units = 0;
        for (int i = 0; i < hours; i++) {
            units += trial.melt((now.hourOfDay + i) % HOURS_OF_DAY);
        }
        return units;
    }

    private boolean isTool(int tool) {
        return tool >= 0 && tool < now.tools.size;
    }

    private static boolean isSite(int site) {
        return isWithin(site, 0, SITES - 1);
    }

    private static boolean isSiteOrNone(int site) {
        return site == NONE || isSite(site);
    }

    private static boolean isWithin(int value, int least, int most) {
        return value >= least && value <= most;
    }

    private static int placeOf(int site, int level) {
        return site * LEVELS + level;
    }

    private static int sum(int[] row) {
        int total = 0;
        for (int value : row) {
            total += value;
        }
        return total;
    }

    private static void copyRow(int[] from, int[] to) {
        System.arraycopy(from, 0, to, 0, Math.min(from.length, to.length));
    }

    /** All that undo brings back: everything but the order text. */
    private static final class State {
        int snow;
        int blocksMade;
        int offcuts;
        int putBack;
        int hourOfDay;
        int day;
        final int[] stock = new int[KINDS];
        final Stacks stacks = new Stacks();
        final Tools tools = new Tools();
        final Ballots ballots = new Ballots();

        void copyFrom(State other) {
            snow = other.snow;
            blocksMade = other.blocksMade;
            offcuts = other.offcuts;
            putBack = other.putBack;
            hourOfDay = other.hourOfDay;
            day = other.day;
            copyRow(other.stock, stock);
            stacks.copyFrom(other.stacks);
            tools.copyFrom(other.tools);
            ballots.copyFrom(other.ballots);
        }

        void takeSnow(int units) {
            snow += units;
        }

        void makeBlocks(int kind, int blocks) {
            snow -= blocks * UNITS_OF_BLOCK;
            stock[kind] += blocks;
            blocksMade += blocks;
        }

        void putBlock(int site, int kind) {
            stock[kind]--;
            stacks.add(site, kind);
        }

        /** 0 if it can be carved, else the number of the first reason against it. */
        int reasonAgainst(int tool, int site, int level, int units) {
            if (!stacks.hasBlock(site, 0)) {
                return 1;
            }
            if (!stacks.hasBlock(site, level)) {
                return 2;
            }
            if (stacks.volumes[placeOf(site, level)] < units) {
                return 3;
            }
            return tools.minutesLeft[tool] < tools.minutesToCarve(tool, units) ? 4 : 0;
        }

        int cutOff(int tool, int site, int level, int units) {
            tools.use(tool, tools.minutesToCarve(tool, units));
            offcuts += units;
            return stacks.cut(site, level, units);
        }

        int putOffcutsBack() {
            int units = Math.min(offcuts, MOST_SNOW - snow);
            offcuts -= units;
            snow += units;
            putBack += units;
            return units;
        }

        /** The units that melt. */
        int passHours(int hours, boolean cloudy) {
            int units = 0;
            for (int i = 0; i < hours; i++) {
                units += cloudy ? 0 : stacks.melt(hourOfDay);
                tools.restoreMinutes();
                hourOfDay++;
                if (hourOfDay >= HOURS_OF_DAY) {
                    hourOfDay = 0;
                    day++;
                }
            }
            return units;
        }
    }

    /** The blocks, walls and totals of all sites; a block stands at placeOf(site, level). */
    private static final class Stacks {
        final int[] heights = new int[SITES];
        final int[] walls = new int[SITES];
        final int[] carved = new int[SITES];
        final int[] melted = new int[SITES];
        final int[] kinds = new int[SITES * LEVELS];
        final int[] volumes = new int[SITES * LEVELS];
        // All melting of an hour is by the stacks before it, so it is noted here before it is done.
        private final int[] losses = new int[SITES * LEVELS];

        void copyFrom(Stacks other) {
            copyRow(other.heights, heights);
            copyRow(other.walls, walls);
            copyRow(other.carved, carved);
            copyRow(other.melted, melted);
            copyRow(other.kinds, kinds);
            copyRow(other.volumes, volumes);
        }

        boolean hasBlock(int site, int level) {
            return level >= 0 && level < heightAt(site);
        }

        /** The blocks on a site; 0 also beyond the first and the last one, where nothing shades. */
        private int heightAt(int site) {
            return site >= 0 && site < SITES ? heights[site] : 0;
        }

        void add(int site, int kind) {
            int place = placeOf(site, heights[site]);
            kinds[place] = kind;
            volumes[place] = UNITS_OF_BLOCK;
            heights[site]++;
        }

        /** The volume that is left of the block, 0 if it is gone. */
        int cut(int site, int level, int units) {
            int place = placeOf(site, level);
            int left = volumes[place] - units;
            volumes[place] = left;
            carved[site] += units;
            dropGone(site);
            return left;
        }

        /** Lets one hour of sun pass; the units that melt. */
        int melt(int hour) {
            for (int site = 0; site < SITES; site++) {
                for (int level = 0; level < heights[site]; level++) {
                    int place = placeOf(site, level);
                    int wanted = rateOf(kinds[place]) * facesInSun(site, level, hour);
                    losses[place] = Math.min(wanted, volumes[place]);
                }
            }
            int units = 0;
            for (int site = 0; site < SITES; site++) {
                units += takeLosses(site);
            }
            return units;
        }

        private int takeLosses(int site) {
            int units = 0;
            for (int level = 0; level < heights[site]; level++) {
                int place = placeOf(site, level);
                volumes[place] -= losses[place];
                units += losses[place];
            }
            melted[site] += units;
            dropGone(site);
            return units;
        }

        private void dropGone(int site) {
            int kept = 0;
            for (int level = 0; level < heights[site]; level++) {
                int from = placeOf(site, level);
                if (volumes[from] > 0) {
                    int to = placeOf(site, kept);
                    kinds[to] = kinds[from];
                    volumes[to] = volumes[from];
                    kept++;
                }
            }
            heights[site] = kept;
        }

        int facesInSun(int site, int level, int hour) {
            boolean shaded;
            if (hour < FIRST_HOUR_IN_SOUTH) {
                shaded = level < heightAt(site + 1);
            } else if (hour < FIRST_HOUR_IN_WEST) {
                shaded = walls[site] == 1;
            } else {
                shaded = level < heightAt(site - 1);
            }
            int side = shaded ? 0 : 1;
            int top = level == heights[site] - 1 ? 1 : 0;
            return side + top;
        }

        private static int rateOf(int kind) {
            switch (kind) {
                case 0:
                    return 6;
                case 1:
                    return 4;
                default:
                    return 2;
            }
        }

        int volumeOf(int site) {
            int total = 0;
            for (int level = 0; level < heights[site]; level++) {
                total += volumes[placeOf(site, level)];
            }
            return total;
        }

        int volumeOfAll() {
            int total = 0;
            for (int site = 0; site < SITES; site++) {
                total += volumeOf(site);
            }
            return total;
        }

        int sculptures() {
            int total = 0;
            for (int site = 0; site < SITES; site++) {
                total += heights[site] > 0 ? 1 : 0;
            }
            return total;
        }
    }

    private static final class Tools {
        int size;
        final int[] speeds = new int[MOST_TOOLS];
        final int[] minutesLeft = new int[MOST_TOOLS];
        final int[] minutesUsed = new int[MOST_TOOLS];

        void copyFrom(Tools other) {
            size = other.size;
            copyRow(other.speeds, speeds);
            copyRow(other.minutesLeft, minutesLeft);
            copyRow(other.minutesUsed, minutesUsed);
        }

        void add(int speed) {
            speeds[size] = speed;
            minutesLeft[size] = MINUTES_OF_HOUR;
            minutesUsed[size] = 0;
            size++;
        }

        int minutesToCarve(int tool, int units) {
            int speed = speeds[tool];
            return speed < 1 ? 0 : (units + speed - 1) / speed;
        }

        void use(int tool, int minutes) {
            minutesLeft[tool] -= minutes;
            minutesUsed[tool] += minutes;
        }

        void restoreMinutes() {
            for (int tool = 0; tool < size; tool++) {
                minutesLeft[tool] = MINUTES_OF_HOUR;
            }
        }
    }

    private static final class Ballots {
        int size;
        private final int[] choices = new int[MOST_BALLOTS * SITES_OF_BALLOT];

        void copyFrom(Ballots other) {
            size = other.size;
            copyRow(other.choices, choices);
        }

        void add(int first, int second, int third) {
            int place = size * SITES_OF_BALLOT;
            choices[place] = first;
            choices[place + 1] = second;
            choices[place + 2] = third;
            size++;
        }

        /** The first site of the ballot that stands, or NONE. */
        int choiceAmong(boolean[] standing, int ballot) {
            for (int i = 0; i < SITES_OF_BALLOT; i++) {
                int site = choices[ballot * SITES_OF_BALLOT + i];
                if (isSite(site) && standing[site]) {
                    return site;
                }
            }
            return NONE;
        }
    }

    /** The count of the ballots by rounds, held anew for every question. */
    private static final class Count {
        int roundsHeld;
        int winningSite = NONE;
        private int votesCounted;
        private final boolean[] standing = new boolean[SITES];
        private final int[] votesOfRounds = new int[SITES * SITES];

        void take(Stacks stacks, Ballots ballots) {
            roundsHeld = 0;
            winningSite = NONE;
            for (int site = 0; site < SITES; site++) {
                standing[site] = stacks.hasBlock(site, 0);
            }
            if (stacks.sculptures() == 0) {
                return;
            }
            // Each round but the last takes one site away, so there are no more rounds than sites.
            for (int round = 0; round < SITES; round++) {
                countVotes(round, ballots);
                roundsHeld = round + 1;
                winningSite = winnerOf(round);
                if (winningSite != NONE) {
                    return;
                }
                dropWeakest(round, stacks);
            }
        }

        int votesIn(int round, int site) {
            if (round < 0 || round >= roundsHeld) {
                return NONE;
            }
            return votesOfRounds[round * SITES + site];
        }

        private void countVotes(int round, Ballots ballots) {
            votesCounted = 0;
            for (int site = 0; site < SITES; site++) {
                votesOfRounds[round * SITES + site] = standing[site] ? 0 : NONE;
            }
            for (int ballot = 0; ballot < ballots.size; ballot++) {
                int site = ballots.choiceAmong(standing, ballot);
                if (site != NONE) {
                    votesOfRounds[round * SITES + site]++;
                    votesCounted++;
                }
            }
        }

        private int winnerOf(int round) {
            int sitesStanding = 0;
            int lastStanding = NONE;
            for (int site = 0; site < SITES; site++) {
                if (standing[site]) {
                    if (2 * votesOfRounds[round * SITES + site] > votesCounted) {
                        return site;
                    }
                    sitesStanding++;
                    lastStanding = site;
                }
            }
            return sitesStanding == 1 ? lastStanding : NONE;
        }

        private void dropWeakest(int round, Stacks stacks) {
            int weakest = NONE;
            for (int site = 0; site < SITES; site++) {
                if (standing[site] && (weakest == NONE || isNotStronger(site, weakest, round, stacks))) {
                    weakest = site;
                }
            }
            if (weakest != NONE) {
                standing[weakest] = false;
            }
        }

        /** Of equals the site asked about, which has the higher number, is the weaker one. */
        private boolean isNotStronger(int site, int weakest, int round, Stacks stacks) {
            int votesOfSite = votesOfRounds[round * SITES + site];
            int fewest = votesOfRounds[round * SITES + weakest];
            if (votesOfSite != fewest) {
                return votesOfSite < fewest;
            }
            return stacks.volumeOf(site) <= stacks.volumeOf(weakest);
        }
    }

    /** The latest states, in a ring: the oldest one is written over when a fifth one comes. */
    private static final class UndoStack {
        int size;
        private int top;
        private final State[] states = new State[MOST_SAVED];

        UndoStack() {
            for (int i = 0; i < MOST_SAVED; i++) {
                states[i] = new State();
            }
        }

        void push(State state) {
            top = (top + 1) % MOST_SAVED;
            states[top].copyFrom(state);
            size = Math.min(size + 1, MOST_SAVED);
        }

        void pop(State into) {
            into.copyFrom(states[top]);
            top = (top + MOST_SAVED - 1) % MOST_SAVED;
            size--;
        }
    }

    private enum Word {
        SNOW("snow", 1), PRESS("press", 2), STACK("stack", 2), TOOL("tool", 1), CARVE("carve", 4),
        WALL("wall", 1), SUN("sun", 1), CLOUD("cloud", 1), AGAIN("again", 0);

        final String letters;
        final int numbersBehind;

        Word(String letters, int numbersBehind) {
            this.letters = letters;
            this.numbersBehind = numbersBehind;
        }
    }

    /** The typed bytes, and a reader that goes through them one order at a time. */
    private static final class OrderText {
        int length;
        Word word;
        final int[] numbers = new int[MOST_NUMBERS];
        private int at;
        private int fault = NONE;
        private final byte[] bytes = new byte[MOST_BYTES];

        void append(int value) {
            bytes[length] = (byte) value;
            length++;
        }

        void rewind() {
            at = 0;
            fault = NONE;
        }

        /** The index of the fault, or NONE. */
        int firstFault() {
            rewind();
            for (int i = 0; i < MOST_BYTES; i++) {
                if (!readOrder()) {
                    break;
                }
            }
            return fault;
        }

        /** Reads the next order into word and numbers; false at the end of the text or at a fault. */
        boolean readOrder() {
            skipSpaces();
            if (at >= length) {
                return false;
            }
            int start = at;
            skipLetters();
            word = wordBetween(start, at);
            if (word == null) {
                fault = start;
                return false;
            }
            for (int i = 0; i < word.numbersBehind && i < MOST_NUMBERS; i++) {
                if (!readNumber(i)) {
                    return false;
                }
            }
            return readSemicolon();
        }

        private boolean readNumber(int place) {
            int start = at;
            skipSpaces();
            if (at == start || !isDigitNext()) {
                fault = at;
                return false;
            }
            int value = 0;
            for (int i = 0; i < MOST_DIGITS && isDigitNext(); i++) {
                value = value * 10 + bytes[at] - '0';
                at++;
            }
            numbers[place] = value;
            return true;
        }

        private boolean readSemicolon() {
            skipSpaces();
            if (!isNextWithin(';', ';')) {
                fault = at;
                return false;
            }
            at++;
            return true;
        }

        private void skipSpaces() {
            while (at < length && isNextWithin(' ', ' ')) {
                at++;
            }
        }

        private void skipLetters() {
            while (at < length && isNextWithin('a', 'z')) {
                at++;
            }
        }

        private boolean isDigitNext() {
            return isNextWithin('0', '9');
        }

        private boolean isNextWithin(char least, char most) {
            return at < length && bytes[at] >= least && bytes[at] <= most;
        }

        /** The word that these bytes spell, or null. */
        private Word wordBetween(int start, int end) {
            for (Word candidate : WORDS) {
                if (isSpelled(candidate.letters, start, end)) {
                    return candidate;
                }
            }
            return null;
        }

        private boolean isSpelled(String letters, int start, int end) {
            if (letters.length() != end - start) {
                return false;
            }
            for (int i = 0; i < letters.length(); i++) {
                if (bytes[start + i] != letters.charAt(i)) {
                    return false;
                }
            }
            return true;
        }
    }
}

import java.util.ArrayList;
import java.util.Comparator;
import java.util.List;

/**
 * The document once more, written another way (lists, exceptions, a machine of states for the
 * order text, the votes counted anew for each question), so that ModelTests can compare the two.
 */
public final class Model {
    private static final String[] WORDS = {"snow", "press", "stack", "tool", "carve", "wall", "sun", "cloud", "again"};
    private static final int[] NUMBERS = {1, 2, 2, 1, 4, 1, 1, 1, 0};

    private record Block(int kind, int volume) {
    }

    private static final class Site {
        List<Block> blocks = new ArrayList<>();
        boolean wall;
        int carved;
        int melted;

        Site copy() {
            Site c = new Site();
            c.blocks.addAll(blocks);
            c.wall = wall;
            c.carved = carved;
            c.melted = melted;
            return c;
        }

        int volume() {
            return blocks.stream().mapToInt(Block::volume).sum();
        }
    }

    private record Tool(int speed, int left, int used) {
        int minutes(int units) {
            int minutes = 0;
            for (int done = 0; done < units; done += speed) {
                minutes++;
            }
            return minutes;
        }
    }

    private static final class World {
        int snow;
        int made;
        int offcuts;
        int back;
        int hours;
        int[] stock = new int[3];
        List<Site> sites = new ArrayList<>();
        List<Tool> tools = new ArrayList<>();
        List<int[]> ballots = new ArrayList<>();

        World copy() {
            World c = new World();
            c.snow = snow;
            c.made = made;
            c.offcuts = offcuts;
            c.back = back;
            c.hours = hours;
            c.stock = stock.clone();
            for (Site s : sites) {
                c.sites.add(s.copy());
            }
            c.tools.addAll(tools);
            c.ballots.addAll(ballots);
            return c;
        }

        int faces(int site, int level) {
            List<Block> own = sites.get(site).blocks;
            int faces = level + 1 == own.size() ? 1 : 0;
            int sun = hours % 12 / 4;
            if (sun == 1) {
                return sites.get(site).wall ? faces : faces + 1;
            }
            int neighbor = sun == 0 ? site + 1 : site - 1;
            boolean shaded = neighbor >= 0 && neighbor < 8 && sites.get(neighbor).blocks.size() > level;
            return shaded ? faces : faces + 1;
        }

        int pass(boolean cloudy) {
            int units = 0;
            if (!cloudy) {
                List<Site> after = new ArrayList<>();
                for (int s = 0; s < 8; s++) {
                    Site copy = sites.get(s).copy();
                    copy.blocks.clear();
                    for (int level = 0; level < sites.get(s).blocks.size(); level++) {
                        Block b = sites.get(s).blocks.get(level);
                        int loss = Math.min(b.volume(), new int[] {6, 4, 2}[b.kind()] * faces(s, level));
                        copy.melted += loss;
                        units += loss;
                        if (loss < b.volume()) {
                            copy.blocks.add(new Block(b.kind(), b.volume() - loss));
                        }
                    }
                    after.add(copy);
                }
                sites = after;
            }
            tools.replaceAll(t -> new Tool(t.speed(), 60, t.used()));
            hours++;
            return units;
        }
    }

    private World world = new World();
    private final List<World> past = new ArrayList<>();
    private String text = "";

    public Model() {
        for (int i = 0; i < 8; i++) {
            world.sites.add(new Site());
        }
    }

    private static void argument(boolean good) {
        if (!good) {
            throw new IllegalArgumentException();
        }
    }

    private static void state(boolean good) {
        if (!good) {
            throw new IllegalStateException();
        }
    }

    private static void index(boolean good) {
        if (!good) {
            throw new IndexOutOfBoundsException();
        }
    }

    private void save(World before) {
        past.add(before);
        if (past.size() > 4) {
            past.remove(0);
        }
    }

    private interface Change {
        int make();
    }

    private int undoable(Change change) {
        World before = world.copy();
        int answer = change.make();
        save(before);
        return answer;
    }

    private int doSnow(int units) {
        argument(units >= 1 && units <= 9999);
        state(world.snow <= 9999 - units);
        return world.snow += units;
    }

    private int doPress(int kind, int blocks) {
        argument(kind >= 0 && kind <= 2 && blocks >= 1 && blocks <= 50);
        state(world.snow >= 100 * blocks && world.stock[kind] + blocks <= 50);
        world.snow -= 100 * blocks;
        world.made += blocks;
        return world.stock[kind] += blocks;
    }

    private int doStack(int site, int kind) {
        index(site >= 0 && site <= 7);
        argument(kind >= 0 && kind <= 2);
        List<Block> blocks = world.sites.get(site).blocks;
        state(world.stock[kind] > 0 && blocks.size() < 6);
        world.stock[kind]--;
        blocks.add(new Block(kind, 100));
        return blocks.size() - 1;
    }

    private int doWall(int site, boolean wall) {
        index(site >= 0 && site <= 7);
        world.sites.get(site).wall = wall;
        return (int) world.sites.stream().filter(s -> s.wall).count();
    }

    private int doTool(int speed) {
        argument(speed >= 1 && speed <= 20);
        state(world.tools.size() < 5);
        world.tools.add(new Tool(speed, 60, 0));
        return world.tools.size() - 1;
    }

    private int doCarve(int tool, int site, int level, int units) {
        state(reason(tool, site, level, units) == 0);
        Tool t = world.tools.get(tool);
        int minutes = t.minutes(units);
        world.tools.set(tool, new Tool(t.speed(), t.left() - minutes, t.used() + minutes));
        world.offcuts += units;
        Site s = world.sites.get(site);
        s.carved += units;
        Block b = s.blocks.get(level);
        if (b.volume() == units) {
            s.blocks.remove(level);
        } else {
            s.blocks.set(level, new Block(b.kind(), b.volume() - units));
        }
        return b.volume() - units;
    }

    private int doRecycle() {
        int units = 0;
        while (world.offcuts > 0 && world.snow < 9999) {
            world.offcuts--;
            world.snow++;
            world.back++;
            units++;
        }
        return units;
    }

    public int addSnow(int units) {
        return undoable(() -> doSnow(units));
    }

    public int press(int kind, int blocks) {
        return undoable(() -> doPress(kind, blocks));
    }

    public int stack(int site, int kind) {
        return undoable(() -> doStack(site, kind));
    }

    public int setWall(int site, boolean wall) {
        return undoable(() -> doWall(site, wall));
    }

    public int addTool(int speed) {
        return undoable(() -> doTool(speed));
    }

    public int carve(int tool, int site, int level, int units) {
        return undoable(() -> doCarve(tool, site, level, units));
    }

    public int recycle() {
        return undoable(this::doRecycle);
    }

    public int hour(boolean cloudy) {
        return undoable(() -> world.pass(cloudy));
    }

    public int ballot(int first, int second, int third) {
        return undoable(() -> {
            List<Integer> named = new ArrayList<>();
            for (int site : new int[] {first, second, third}) {
                argument(site >= -1 && site <= 7 && !(site >= 0 && named.contains(site)));
                argument(site == -1 || named.isEmpty() || named.get(named.size() - 1) != -1);
                named.add(site);
            }
            argument(first != -1);
            state(world.ballots.size() < 20);
            world.ballots.add(new int[] {first, second, third});
            return world.ballots.size();
        });
    }

    public int clearBallots() {
        return undoable(() -> {
            int before = world.ballots.size();
            world.ballots.clear();
            return before;
        });
    }

    public int block(int site, int level, int what) {
        index(site >= 0 && site <= 7);
        argument(level >= 0 && level <= 5 && what >= 0 && what <= 2);
        List<Block> blocks = world.sites.get(site).blocks;
        if (level >= blocks.size()) {
            return -1;
        }
        Block b = blocks.get(level);
        return what == 0 ? b.kind() : what == 1 ? b.volume() : world.faces(site, level);
    }

    public int site(int site, int what) {
        index(site >= 0 && site <= 7);
        argument(what >= 0 && what <= 4);
        Site s = world.sites.get(site);
        return new int[] {s.blocks.size(), s.volume(), s.wall ? 1 : 0, s.carved, s.melted}[what];
    }

    public int tool(int tool, int what) {
        index(tool >= 0 && tool < world.tools.size());
        argument(what >= 0 && what <= 2);
        Tool t = world.tools.get(tool);
        return new int[] {t.speed(), t.left(), t.used()}[what];
    }

    public int whole(int what) {
        argument(what >= 0 && what <= 15);
        List<Site> all = world.sites;
        return new int[] {world.snow, world.stock[0], world.stock[1], world.stock[2], world.made,
            (int) all.stream().filter(s -> !s.blocks.isEmpty()).count(), all.stream().mapToInt(Site::volume).sum(),
            world.offcuts, all.stream().mapToInt(s -> s.melted).sum(), world.back, world.tools.size(),
            (int) all.stream().filter(s -> s.wall).count(), world.hours % 12, world.hours / 12,
            world.ballots.size(), text.length()}[what];
    }

    /** The votes by rounds, and behind them the winner. */
    private List<int[]> count() {
        List<int[]> rounds = new ArrayList<>();
        List<Integer> standing = new ArrayList<>();
        for (int s = 0; s < 8; s++) {
            if (!world.sites.get(s).blocks.isEmpty()) {
                standing.add(s);
            }
        }
        while (!standing.isEmpty()) {
            int[] votes = {-1, -1, -1, -1, -1, -1, -1, -1};
            standing.forEach(s -> votes[s] = 0);
            int all = 0;
            for (int[] b : world.ballots) {
                for (int s : b) {
                    if (standing.contains(s)) {
                        votes[s]++;
                        all++;
                        break;
                    }
                }
            }
            rounds.add(votes);
            for (int s : standing) {
                if (standing.size() == 1 || votes[s] > all - votes[s]) {
                    rounds.add(new int[] {s});
                    return rounds;
                }
            }
            standing.sort(Comparator.<Integer>comparingInt(s -> votes[s])
                .thenComparingInt(s -> world.sites.get(s).volume()).thenComparingInt(s -> -s));
            standing.remove(0);
        }
        rounds.add(new int[] {-1});
        return rounds;
    }

    public int rounds() {
        return count().size() - 1;
    }

    public int votes(int round, int site) {
        argument(round >= 0);
        index(site >= 0 && site <= 7);
        return round < rounds() ? count().get(round)[site] : -1;
    }

    public int winner() {
        return count().get(rounds())[0];
    }

    public int reason(int tool, int site, int level, int units) {
        index(tool >= 0 && tool < world.tools.size() && site >= 0 && site <= 7);
        argument(level >= 0 && level <= 5 && units >= 1 && units <= 100);
        List<Block> blocks = world.sites.get(site).blocks;
        if (blocks.isEmpty()) {
            return 1;
        }
        if (blocks.size() <= level) {
            return 2;
        }
        if (blocks.get(level).volume() < units) {
            return 3;
        }
        return world.tools.get(tool).minutes(units) > world.tools.get(tool).left() ? 4 : 0;
    }

    public int volumeIn(int site, int hours) {
        index(site >= 0 && site <= 7);
        argument(hours >= 0 && hours <= 48);
        World later = world.copy();
        for (int i = 0; i < hours; i++) {
            later.pass(false);
        }
        return later.sites.get(site).volume();
    }

    public int goneIn(int site) {
        index(site >= 0 && site <= 7);
        if (world.sites.get(site).blocks.isEmpty()) {
            return -1;
        }
        World later = world.copy();
        for (int i = 1; i <= 200; i++) {
            later.pass(false);
            if (later.sites.get(site).blocks.isEmpty()) {
                return i;
            }
        }
        return -1;
    }

    private int meltsWithWall(int site) {
        World later = world.copy();
        if (site >= 0) {
            later.sites.get(site).wall = true;
        }
        int units = 0;
        for (int i = 0; i < 12; i++) {
            units += later.pass(false);
        }
        return units;
    }

    public int bestWall() {
        int best = -1;
        int least = meltsWithWall(-1);
        for (int s = 0; s < 8; s++) {
            int melts = meltsWithWall(s);
            if (melts < least) {
                least = melts;
                best = s;
            }
        }
        return best;
    }

    public int minutesFor(int tool, int units) {
        index(tool >= 0 && tool < world.tools.size());
        argument(units >= 0 && units <= 9999);
        return world.tools.get(tool).minutes(units);
    }

    public int type(int value) {
        argument(value >= 0 && value <= 127);
        state(text.length() < 150);
        text += (char) value;
        return text.length();
    }

    public int clearOrders() {
        int before = text.length();
        text = "";
        return before;
    }

    /** Goes through the text byte by byte; the orders it has read are added to the list. */
    private int fault(List<int[]> orders) {
        int wordStart = -1;
        int[] order = null;
        int have = 0;
        int digits = 0;
        boolean spaced = false;
        for (int i = 0; i <= text.length(); i++) {
            char c = i < text.length() ? text.charAt(i) : (char) 200;
            boolean end = i == text.length();
            if (wordStart >= 0) {
                if (c >= 'a' && c <= 'z') {
                    continue;
                }
                int word = List.of(WORDS).indexOf(text.substring(wordStart, i));
                if (word < 0) {
                    return wordStart;
                }
                order = new int[] {word, 0, 0, 0, 0};
                wordStart = -1;
                have = 0;
                digits = 0;
                spaced = false;
            }
            if (order == null) {
                if (end) {
                    return -1;
                }
                if (c >= 'a' && c <= 'z') {
                    wordStart = i;
                } else if (c != ' ') {
                    return i;
                }
                continue;
            }
            if (end) {
                return i;
            }
            if (c == ' ') {
                spaced = true;
                digits = 0;
            } else if (c == ';' && have == NUMBERS[order[0]]) {
                orders.add(order);
                order = null;
            } else if (c >= '0' && c <= '9' && spaced && digits == 0 && have < NUMBERS[order[0]]) {
                have++;
                digits = 1;
                order[have] = c - '0';
                spaced = false;
            } else if (c >= '0' && c <= '9' && digits > 0 && digits < 4) {
                digits++;
                order[have] = 10 * order[have] + c - '0';
            } else {
                return i;
            }
        }
        return -1;
    }

    private int carryOut(int[] o) {
        switch (WORDS[o[0]]) {
            case "snow": return doSnow(o[1]);
            case "press": return doPress(o[1], o[2]);
            case "stack": return doStack(o[1], o[2]);
            case "tool": return doTool(o[1]);
            case "carve": return doCarve(o[1], o[2], o[3], o[4]);
            case "wall": return doWall(o[1], true);
            case "again": return doRecycle();
            default:
                argument(o[1] >= 1 && o[1] <= 24);
                for (int i = 0; i < o[1]; i++) {
                    world.pass(WORDS[o[0]].equals("cloud"));
                }
                return 0;
        }
    }

    public int runOrders() {
        List<int[]> orders = new ArrayList<>();
        int fault = fault(orders);
        if (fault >= 0) {
            return -10 - fault;
        }
        save(world.copy());
        int done = 0;
        try {
            for (int[] order : orders) {
                carryOut(order);
                done++;
            }
        } catch (IllegalArgumentException | IllegalStateException | IndexOutOfBoundsException e) {
            return done;
        }
        return done;
    }

    public int undo() {
        state(!past.isEmpty());
        world = past.remove(past.size() - 1);
        return past.size();
    }

    public long digest() {
        List<Integer> values = new ArrayList<>();
        values.add(past.size());
        for (int what = 0; what <= 15; what++) {
            values.add(whole(what));
        }
        for (int s = 0; s < 8; s++) {
            for (int what = 0; what <= 4; what++) {
                values.add(site(s, what));
            }
            for (int level = 0; level < site(s, 0); level++) {
                for (int what = 0; what <= 2; what++) {
                    values.add(block(s, level, what));
                }
            }
        }
        for (int t = 0; t < world.tools.size(); t++) {
            for (int what = 0; what <= 2; what++) {
                values.add(tool(t, what));
            }
        }
        List<int[]> count = count();
        values.add(count.size() - 1);
        for (int[] row : count) {
            for (int v : row) {
                values.add(v);
            }
        }
        values.add(bestWall());
        long h = 43420;
        for (int v : values) {
            h = 31 * h + v;
        }
        return h;
    }
}

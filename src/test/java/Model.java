import java.util.ArrayDeque;
import java.util.ArrayList;
import java.util.Arrays;
import java.util.List;
import java.util.TreeMap;
import java.util.TreeSet;
import java.util.regex.Matcher;
import java.util.regex.Pattern;

/**
 * The document once more, in the slowest and most literal way, for the random runs: lights are raised until nothing
 * changes, texts are read by a pattern, and what would be is tried out.
 */
final class Model {
    private static final int[][] STEPS = {{-1, 0, 0}, {1, 0, 0}, {0, -1, 0}, {0, 1, 0}, {0, 0, -1}, {0, 0, 1}};
    private static final String N = "([0-9]{1,2})";
    private static final Pattern COMMAND = Pattern.compile(
            "s" + N + "," + N + "," + N + "=" + N
            + "|f" + N + "," + N + "," + N + "," + N + "," + N + "," + N + "=" + N
            + "|[le]" + N + "," + N + "," + N);
    private static final Pattern TEXT = Pattern.compile("(?:" + COMMAND + ")(?:;(?:" + COMMAND + "))*");

    private static final class State {
        final int[][][] types = new int[12][8][12];
        final int[][] losses = new int[8][4];
        final int[][] emissions = new int[8][3];

        State copy() {
            State s = new State();
            for (int z = 0; z < 12; z++) {
                for (int y = 0; y < 8; y++) {
                    s.types[z][y] = types[z][y].clone();
                }
            }
            for (int t = 0; t < 8; t++) {
                s.losses[t] = losses[t].clone();
                s.emissions[t] = emissions[t].clone();
            }
            return s;
        }

        int filled() {
            int n = 0;
            for (int[][] slice : types) {
                for (int[] row : slice) {
                    n += Arrays.stream(row).filter(t -> t != 0).count();
                }
            }
            return n;
        }
    }

    private State now = new State();
    private State copy = null;
    private int[][][][] lit;
    private TreeMap<Integer, Integer> batch = null;
    private final ArrayDeque<State> history = new ArrayDeque<>();
    private TreeSet<Integer> effect = new TreeSet<>();
    private String text = "";
    private int fault = -4;

    Model() {
        Arrays.fill(now.losses[1], 15);
        lit = lights(now, null, 0);
    }

    private static boolean cell(int x, int y, int z) {
        return x >= 0 && x <= 11 && y >= 0 && y <= 7 && z >= 0 && z <= 11;
    }

    private static boolean in(int value, int last) {
        return value >= 0 && value <= last;
    }

    private static int number(int x, int y, int z) {
        return 100 * z + 12 * y + x;
    }

    /** The lights of all channels, with another emission in one place, which may be null. */
    private static int[][][][] lights(State s, int[] place, int emission) {
        int[][][][] found = new int[4][12][8][12];
        boolean changed = true;
        while (changed) {
            changed = false;
            for (int c = 0; c < 4; c++) {
                for (int z = 0; z < 12; z++) {
                    for (int y = 7; y >= 0; y--) {
                        for (int x = 0; x < 12; x++) {
                            int light = demanded(s, found[c], c, new int[] {x, y, z}, place, emission);
                            if (light > found[c][z][y][x]) {
                                found[c][z][y][x] = light;
                                changed = true;
                            }
                        }
                    }
                }
            }
        }
        return found;
    }

    private static int demanded(State s, int[][][] f, int c, int[] at, int[] place, int emission) {
        int x = at[0];
        int y = at[1];
        int z = at[2];
        int type = s.types[z][y][x];
        int loss = s.losses[type][c];
        int most = 0;
        if (c < 3) {
            most = Arrays.equals(at, place) ? emission : s.emissions[type][c];
        } else if (y == 7) {
            most = 15 - loss;
        } else if (f[z][y + 1][x] == 15 && loss == 0) {
            most = 15;
        }
        for (int[] step : STEPS) {
            if (cell(x + step[0], y + step[1], z + step[2])) {
                most = Math.max(most, f[z + step[2]][y + step[1]][x + step[0]] - 1 - loss);
            }
        }
        return most;
    }

    private int changeTo(State next) {
        int[][][][] after = lights(next, null, 0);
        effect = new TreeSet<>();
        for (int z = 0; z < 12; z++) {
            for (int y = 0; y < 8; y++) {
                for (int x = 0; x < 12; x++) {
                    for (int c = 0; c < 4; c++) {
                        if (after[c][z][y][x] != lit[c][z][y][x]) {
                            effect.add(number(x, y, z));
                        }
                    }
                }
            }
        }
        now = next;
        lit = after;
        return effect.size();
    }

    private int change(State next) {
        history.addLast(now);
        if (history.size() > 6) {
            history.removeFirst();
        }
        return changeTo(next);
    }

    int set(int x, int y, int z, int type) {
        if (!cell(x, y, z) || !in(type, 7)) {
            return -1;
        }
        if (batch != null) {
            int number = number(x, y, z);
            if (batch.size() == 40 && !batch.containsKey(number)) {
                return -3;
            }
            batch.put(number, type);
            return batch.size();
        }
        State next = now.copy();
        next.types[z][y][x] = type;
        return change(next);
    }

    int openBatch() {
        if (batch != null) {
            return -5;
        }
        batch = new TreeMap<>();
        return 1;
    }

    int closeBatch() {
        if (batch == null) {
            return -5;
        }
        State next = now.copy();
        batch.forEach((number, type) -> next.types[number / 100][number % 100 / 12][number % 100 % 12] = type);
        batch = null;
        return change(next);
    }

    int dropBatch() {
        if (batch == null) {
            return -5;
        }
        int size = batch.size();
        batch = null;
        return size;
    }

    int batchSize() {
        return batch == null ? -5 : batch.size();
    }

    int fill(int x, int y, int z, int width, int height, int type) {
        if (batch != null) {
            return -5;
        }
        if (!cell(x, y, z) || !in(type, 7)) {
            return -1;
        }
        if (width < 1 || height < 1 || width > 12 || height > 8
                || !cell(x + width - 1, y + height - 1, z + width - 1)) {
            return -2;
        }
        State next = now.copy();
        box(next, new int[] {x, y, z, x + width - 1, y + height - 1, z + width - 1, type});
        return change(next);
    }

    private static void box(State s, int[] n) {
        for (int z = n[2]; z <= n[5]; z++) {
            for (int y = n[1]; y <= n[4]; y++) {
                for (int x = n[0]; x <= n[3]; x++) {
                    s.types[z][y][x] = n[6];
                }
            }
        }
    }

    int setLoss(int type, int channel, int loss) {
        if (batch != null) {
            return -5;
        }
        if (!in(type, 7) || !in(channel, 3)) {
            return -1;
        }
        if (!in(loss, 15)) {
            return -2;
        }
        State next = now.copy();
        next.losses[type][channel] = loss;
        return change(next);
    }

    int setEmission(int type, int channel, int emission) {
        if (batch != null) {
            return -5;
        }
        if (!in(type, 7) || !in(channel, 2)) {
            return -1;
        }
        if (!in(emission, 15)) {
            return -2;
        }
        State next = now.copy();
        next.emissions[type][channel] = emission;
        return change(next);
    }

    int append(int packed) {
        StringBuilder more = new StringBuilder();
        for (int i = 3; i >= 0; i--) {
            int sign = packed >> 8 * i & 0xff;
            if (sign != 0) {
                if (sign < 33 || sign > 126) {
                    return -2;
                }
                more.append((char) sign);
            }
        }
        if (text.length() + more.length() > 60) {
            return -3;
        }
        text += more;
        return text.length();
    }

    private static int faultOf(String text) {
        for (int end = 0; end <= text.length(); end++) {
            Matcher m = TEXT.matcher(text.substring(0, end));
            if (!m.matches() && !m.hitEnd()) {
                return end - 1;
            }
        }
        return TEXT.matcher(text).matches() ? -4 : text.length();
    }

    private static int[] numbersOf(String command) {
        return Arrays.stream(command.substring(1).split("[,=]")).mapToInt(Integer::parseInt).toArray();
    }

    private static boolean refused(String command) {
        int[] n = numbersOf(command);
        switch (command.charAt(0)) {
            case 's':
                return !cell(n[0], n[1], n[2]) || n[3] > 7;
            case 'f':
                return !cell(n[0], n[1], n[2]) || !cell(n[3], n[4], n[5]) || n[6] > 7
                        || n[3] < n[0] || n[4] < n[1] || n[5] < n[2];
            case 'l':
                return n[0] > 7 || n[1] > 3 || n[2] > 15;
            default:
                return n[0] > 7 || n[1] > 2 || n[2] > 15;
        }
    }

    int read() {
        if (batch != null) {
            return -5;
        }
        String whole = text;
        text = "";
        fault = faultOf(whole);
        if (fault != -4) {
            return -2;
        }
        String[] commands = whole.split(";");
        int start = 0;
        for (String command : commands) {
            if (refused(command)) {
                fault = start;
                return -2;
            }
            start += command.length() + 1;
        }
        State next = now.copy();
        for (String command : commands) {
            int[] n = numbersOf(command);
            switch (command.charAt(0)) {
                case 's':
                    next.types[n[2]][n[1]][n[0]] = n[3];
                    break;
                case 'f':
                    box(next, n);
                    break;
                case 'l':
                    next.losses[n[0]][n[1]] = n[2];
                    break;
                default:
                    next.emissions[n[0]][n[1]] = n[2];
                    break;
            }
        }
        change(next);
        return commands.length;
    }

    int faultPosition() {
        return fault;
    }

    int undo() {
        if (batch != null) {
            return -5;
        }
        if (history.isEmpty()) {
            return -4;
        }
        changeTo(history.removeLast());
        return history.size();
    }

    int type(int x, int y, int z) {
        return cell(x, y, z) ? now.types[z][y][x] : -1;
    }

    int loss(int type, int channel) {
        return in(type, 7) && in(channel, 3) ? now.losses[type][channel] : -1;
    }

    int emission(int type, int channel) {
        return in(type, 7) && in(channel, 2) ? now.emissions[type][channel] : -1;
    }

    int light(int x, int y, int z, int channel) {
        return cell(x, y, z) && in(channel, 3) ? lit[channel][z][y][x] : -1;
    }

    int lights(int x, int y, int z) {
        if (!cell(x, y, z)) {
            return -1;
        }
        int sum = 0;
        for (int c = 3; c >= 0; c--) {
            sum = sum * 16 + lit[c][z][y][x];
        }
        return sum;
    }

    int origin(int x, int y, int z, int channel) {
        int light = light(x, y, z, channel);
        if (light == -1) {
            return -1;
        }
        if (light == 0) {
            return -4;
        }
        int loss = now.losses[now.types[z][y][x]][channel];
        if (channel < 3 && light == now.emissions[now.types[z][y][x]][channel]) {
            return 6;
        }
        if (channel == 3 && y == 7 && light == 15 - loss) {
            return 7;
        }
        if (channel == 3 && light == 15 && loss == 0 && light(x, y + 1, z, 3) == 15) {
            return 8;
        }
        for (int d = 0; d < 6; d++) {
            if (light(x + STEPS[d][0], y + STEPS[d][1], z + STEPS[d][2], channel) - 1 - loss == light) {
                return d;
            }
        }
        throw new IllegalStateException("a light without an origin");
    }

    private List<int[]> way(int x, int y, int z, int channel) {
        List<int[]> cells = new ArrayList<>();
        int[] at = {x, y, z};
        cells.add(at);
        int from = origin(x, y, z, channel);
        while (from < 6 || from > 7) {
            int[] step = STEPS[from == 8 ? 3 : from];
            at = new int[] {at[0] + step[0], at[1] + step[1], at[2] + step[2]};
            cells.add(at);
            from = origin(at[0], at[1], at[2], channel);
        }
        return cells;
    }

    int wayLength(int x, int y, int z, int channel) {
        int light = light(x, y, z, channel);
        return light < 0 ? -1 : light == 0 ? -4 : way(x, y, z, channel).size() - 1;
    }

    int wayEnd(int x, int y, int z, int channel) {
        int light = light(x, y, z, channel);
        if (light <= 0) {
            return light < 0 ? -1 : -4;
        }
        List<int[]> way = way(x, y, z, channel);
        int[] end = way.get(way.size() - 1);
        return number(end[0], end[1], end[2]);
    }

    int effect(int index) {
        if (index < -1) {
            return -2;
        }
        if (index == -1) {
            return effect.size();
        }
        // Numbers are in the order of z, then y, then x, as 12 times y plus x is less than 100.
        return index < effect.size() ? new ArrayList<>(effect).get(index) : -4;
    }

    int effectChunks() {
        int bits = 0;
        for (int number : effect) {
            bits |= 1 << 3 * (number / 100 / 4) + number % 100 % 12 / 4;
        }
        return bits;
    }

    private static int sum(int[][][] f) {
        return Arrays.stream(f).flatMap(Arrays::stream).flatMapToInt(Arrays::stream).sum();
    }

    int lightIf(int x, int y, int z, int type, int channel) {
        if (!cell(x, y, z) || !in(type, 7) || !in(channel, 3)) {
            return -1;
        }
        State other = now.copy();
        other.types[z][y][x] = type;
        return sum(lights(other, null, 0)[channel]);
    }

    int spread(int x, int y, int z, int channel) {
        if (!cell(x, y, z) || !in(channel, 2)) {
            return -1;
        }
        int[][][] without = lights(now, new int[] {x, y, z}, 0)[channel];
        int n = 0;
        for (int k = 0; k < 12; k++) {
            for (int j = 0; j < 8; j++) {
                for (int i = 0; i < 12; i++) {
                    n += without[k][j][i] < lit[channel][k][j][i] ? 1 : 0;
                }
            }
        }
        return n;
    }

    int needed(int x, int y, int z, int channel, int wanted) {
        if (!cell(x, y, z) || !in(channel, 2) || !cell(x, y + 1, z)) {
            return -1;
        }
        if (!in(wanted, 15)) {
            return -2;
        }
        for (int emission = 0; emission <= 15; emission++) {
            if (lights(now, new int[] {x, y, z}, emission)[channel][z][y + 1][x] >= wanted) {
                return emission;
            }
        }
        return -4;
    }

    int chunkSum(int chunk, int channel) {
        if (!in(chunk, 8) || !in(channel, 3)) {
            return -1;
        }
        int sum = 0;
        for (int z = chunk / 3 * 4; z < chunk / 3 * 4 + 4; z++) {
            for (int y = 0; y < 8; y++) {
                for (int x = chunk % 3 * 4; x < chunk % 3 * 4 + 4; x++) {
                    sum += lit[channel][z][y][x];
                }
            }
        }
        return sum;
    }

    int crossings(int chunk, int other, int channel) {
        if (!in(chunk, 8) || !in(other, 8) || !in(channel, 3)) {
            return -1;
        }
        if (chunk == other) {
            return -2;
        }
        int n = 0;
        for (int z = chunk / 3 * 4; z < chunk / 3 * 4 + 4; z++) {
            for (int y = 0; y < 8; y++) {
                for (int x = chunk % 3 * 4; x < chunk % 3 * 4 + 4; x++) {
                    int from = origin(x, y, z, channel);
                    if (from >= 0 && from < 6) {
                        n += (z + STEPS[from][2]) / 4 * 3 + (x + STEPS[from][0]) / 4 == other ? 1 : 0;
                    }
                }
            }
        }
        return n;
    }

    int dark(int level) {
        if (!in(level, 15)) {
            return -2;
        }
        int n = 0;
        for (int z = 0; z < 12; z++) {
            for (int y = 0; y < 8; y++) {
                for (int x = 0; x < 12; x++) {
                    boolean dark = true;
                    for (int c = 0; c < 4; c++) {
                        dark &= lit[c][z][y][x] <= level;
                    }
                    n += dark ? 1 : 0;
                }
            }
        }
        return n;
    }

    int skyHeight(int x, int z) {
        if (!cell(x, 0, z)) {
            return -1;
        }
        int y = 8;
        while (y > 0 && lit[3][z][y - 1][x] == 15) {
            y--;
        }
        return y;
    }

    int ray(int x, int y, int z, int direction, int channel) {
        if (!cell(x, y, z) || !in(direction, 5) || !in(channel, 3)) {
            return -1;
        }
        int[] step = STEPS[direction];
        int strength = 15;
        for (int n = 1;; n++) {
            int i = x + n * step[0];
            int j = y + n * step[1];
            int k = z + n * step[2];
            int next = cell(i, j, k) ? strength - now.losses[now.types[k][j][i]][channel] : 0;
            if (next <= 0) {
                return 16 * (n - 1) + strength;
            }
            strength = next;
        }
    }

    int brightest(int channel) {
        if (!in(channel, 3)) {
            return -1;
        }
        for (int light = 15; light > 0; light--) {
            for (int z = 0; z < 12; z++) {
                for (int y = 0; y < 8; y++) {
                    for (int x = 0; x < 12; x++) {
                        if (lit[channel][z][y][x] == light) {
                            return number(x, y, z);
                        }
                    }
                }
            }
        }
        return -4;
    }

    int regions(int level) {
        if (level < 1 || level > 15) {
            return -2;
        }
        // Each cell takes the least number in its region.
        TreeMap<Integer, Integer> region = new TreeMap<>();
        for (int z = 0; z < 12; z++) {
            for (int y = 0; y < 8; y++) {
                for (int x = 0; x < 12; x++) {
                    if (lit[0][z][y][x] >= level || lit[1][z][y][x] >= level || lit[2][z][y][x] >= level) {
                        region.put(number(x, y, z), number(x, y, z));
                    }
                }
            }
        }
        boolean changed = true;
        while (changed) {
            changed = false;
            for (int number : region.keySet()) {
                int x = number % 100 % 12;
                int y = number % 100 / 12;
                int z = number / 100;
                for (int[] step : STEPS) {
                    if (cell(x + step[0], y + step[1], z + step[2])) {
                        Integer other = region.get(number(x + step[0], y + step[1], z + step[2]));
                        if (other != null && other < region.get(number)) {
                            region.put(number, other);
                            changed = true;
                        }
                    }
                }
            }
        }
        return new TreeSet<>(region.values()).size();
    }

    int histogram(int channel, int light) {
        if (!in(channel, 3)) {
            return -1;
        }
        if (!in(light, 15)) {
            return -2;
        }
        return (int) Arrays.stream(lit[channel]).flatMap(Arrays::stream).flatMapToInt(Arrays::stream)
                .filter(l -> l == light).count();
    }

    long checksum() {
        long sum = 17;
        for (int z = 0; z < 12; z++) {
            for (int y = 0; y < 8; y++) {
                for (int x = 0; x < 12; x++) {
                    sum = sum * 31 + now.types[z][y][x] + 8 * lights(x, y, z);
                }
            }
        }
        return sum;
    }

    int save() {
        if (batch != null) {
            return -5;
        }
        copy = now.copy();
        return now.filled();
    }

    int restore() {
        if (batch != null) {
            return -5;
        }
        if (copy == null) {
            return -4;
        }
        changeTo(copy.copy());
        history.clear();
        effect.clear();
        return now.filled();
    }
}

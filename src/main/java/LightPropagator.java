/**
 * A propagator of light in a world of blocks, as ../shared/DOC.md tells it.
 *
 * All rows are made in constructors and used again, so that no call makes an object.
 */
public final class LightPropagator {

    public static final int NO_SUCH_ELEMENT = -1;
    public static final int BAD_VALUE = -2;
    public static final int FULL = -3;
    public static final int NONE = -4;
    public static final int STATE = -5;

    private static final int WIDTH = 12;
    private static final int HEIGHT = 8;
    private static final int TOP = HEIGHT - 1;
    private static final int SLICE = WIDTH * HEIGHT;
    private static final int CELLS = SLICE * WIDTH;
    private static final int NOWHERE = -1;

    private static final int CHUNK_WIDTH = 4;
    private static final int CHUNKS_IN_ROW = 3;
    private static final int CHUNKS = CHUNKS_IN_ROW * CHUNKS_IN_ROW;

    private static final int TYPES = 8;
    private static final int SOLID = 1;
    private static final int CHANNELS = 4;
    private static final int COLORS = 3;
    private static final int SUN = 3;
    private static final int MOST = 15;

    private static final int DIRECTIONS = 6;
    private static final int UP = 3;
    private static final int FROM_EMISSION = 6;
    private static final int FROM_SKY = 7;
    private static final int FROM_SUN_ABOVE = 8;

    private static final int BATCH_EDITS = 40;
    private static final int UNDOABLE = 6;

    private final World world = new World();
    private final int[][] lights = new int[CHANNELS][CELLS];
    private final Lighting lighting = new Lighting();
    private final int[] trial = new int[CELLS];
    private final int[] waiting = new int[CELLS];

    private final boolean[] inEffect = new boolean[CELLS];
    private int effectSize = 0;

    private final Batch batch = new Batch();
    private final History history = new History();
    private final World saved = new World();
    private boolean isSaved = false;

    private final CommandText text = new CommandText();
    private int fault = NONE;

    public LightPropagator() {
        // Type 0 has no loss and no emission: the sun is everywhere, and nothing else.
        for (int cell = 0; cell < CELLS; cell++) {
            lights[SUN][cell] = MOST;
        }
    }

    // Changes

    public int set(int x, int y, int z, int type) {
        if (!Grid.has(x, y, z) || !isType(type)) {
            return NO_SUCH_ELEMENT;
        }
        int cell = Grid.cell(x, y, z);
        if (batch.isOpen) {
            return batch.collect(cell, type);
        }
        history.push(world);
        world.types[cell] = type;
        return relight();
    }

    public int openBatch() {
        if (batch.isOpen) {
            return STATE;
        }
        batch.isOpen = true;
        return 1;
    }

    public int closeBatch() {
        if (!batch.isOpen) {
            return STATE;
        }
        history.push(world);
        batch.makeEdits(world);
        batch.leave();
        return relight();
    }

    public int dropBatch() {
        if (!batch.isOpen) {
            return STATE;
        }
        int dropped = batch.size;
        batch.leave();
        return dropped;
    }

    public int fill(int x, int y, int z, int width, int height, int type) {
        if (batch.isOpen) {
            return STATE;
        }
        if (!Grid.has(x, y, z) || !isType(type)) {
            return NO_SUCH_ELEMENT;
        }
        // Compared with the room that is left, as x + width could wrap around.
        if (width < 1 || height < 1 || width > WIDTH - x || width > WIDTH - z || height > HEIGHT - y) {
            return BAD_VALUE;
        }
        history.push(world);
        world.setBox(Grid.cell(x, y, z), Grid.cell(x + width - 1, y + height - 1, z + width - 1), type);
        return relight();
    }

    public int setLoss(int type, int channel, int loss) {
        if (batch.isOpen) {
            return STATE;
        }
        if (!isType(type) || !isChannel(channel)) {
            return NO_SUCH_ELEMENT;
        }
        if (!isStrength(loss)) {
            return BAD_VALUE;
        }
        history.push(world);
        world.losses[type * CHANNELS + channel] = loss;
        return relight();
    }

    public int setEmission(int type, int channel, int emission) {
        if (batch.isOpen) {
            return STATE;
        }
        if (!isType(type) || !isColor(channel)) {
            return NO_SUCH_ELEMENT;
        }
        if (!isStrength(emission)) {
            return BAD_VALUE;
        }
        history.push(world);
        world.emissions[type * CHANNELS + channel] = emission;
        return relight();
    }

    public int append(int packed) {
        return text.add(packed);
    }

    public int read() {
        if (batch.isOpen) {
            return STATE;
        }
        int position = text.parse();
        if (position == NONE) {
            position = text.firstRefused();
        }
        text.length = 0;
        fault = position;
        if (position != NONE) {
            return BAD_VALUE;
        }
        history.push(world);
        text.execute(world);
        relight();
        return text.commands;
    }

    public int faultPosition() {
        return fault;
    }

    public int undo() {
        if (batch.isOpen) {
            return STATE;
        }
        if (history.size == 0) {
            return NONE;
        }
        history.pop(world);
        relight();
        return history.size;
    }

    // What the world is

    public int type(int x, int y, int z) {
        return Grid.has(x, y, z) ? world.types[Grid.cell(x, y, z)] : NO_SUCH_ELEMENT;
    }

    public int loss(int type, int channel) {
        return isType(type) && isChannel(channel) ? world.losses[type * CHANNELS + channel] : NO_SUCH_ELEMENT;
    }

    public int emission(int type, int channel) {
        return isType(type) && isColor(channel) ? world.emissions[type * CHANNELS + channel] : NO_SUCH_ELEMENT;
    }

    public int light(int x, int y, int z, int channel) {
        return Grid.has(x, y, z) && isChannel(channel) ? lights[channel][Grid.cell(x, y, z)] : NO_SUCH_ELEMENT;
    }

    public int lights(int x, int y, int z) {
        return Grid.has(x, y, z) ? packedLights(Grid.cell(x, y, z)) : NO_SUCH_ELEMENT;
    }

    // Where light comes from

    public int origin(int x, int y, int z, int channel) {
        if (!Grid.has(x, y, z) || !isChannel(channel)) {
            return NO_SUCH_ELEMENT;
        }
        return originOf(Grid.cell(x, y, z), channel);
    }

    public int wayLength(int x, int y, int z, int channel) {
        if (!Grid.has(x, y, z) || !isChannel(channel)) {
            return NO_SUCH_ELEMENT;
        }
        int cell = Grid.cell(x, y, z);
        if (lights[channel][cell] == 0) {
            return NONE;
        }
        int steps = 0;
        int from = giverOf(cell, channel);
        while (from != NOWHERE && steps < CELLS) {
            steps++;
            from = giverOf(from, channel);
        }
        return steps;
    }

    public int wayEnd(int x, int y, int z, int channel) {
        if (!Grid.has(x, y, z) || !isChannel(channel)) {
            return NO_SUCH_ELEMENT;
        }
        int cell = Grid.cell(x, y, z);
        if (lights[channel][cell] == 0) {
            return NONE;
        }
        int end = cell;
        int from = giverOf(cell, channel);
        for (int steps = 0; from != NOWHERE && steps < CELLS; steps++) {
            end = from;
            from = giverOf(from, channel);
        }
        return Grid.number(end);
    }

    // The open batch and the effect

    public int batchSize() {
        return batch.isOpen ? batch.size : STATE;
    }

    public int effect(int index) {
        if (index < -1) {
            return BAD_VALUE;
        }
        if (index == -1) {
            return effectSize;
        }
        int left = index;
        for (int cell = 0; cell < CELLS; cell++) {
            if (inEffect[cell]) {
                if (left == 0) {
                    return Grid.number(cell);
                }
                left--;
            }
        }
        return NONE;
    }

    public int effectChunks() {
        int bits = 0;
        for (int cell = 0; cell < CELLS; cell++) {
            if (inEffect[cell]) {
                bits |= 1 << Grid.chunk(cell);
            }
        }
        return bits;
    }

    // What would be

    public int lightIf(int x, int y, int z, int type, int channel) {
        if (!Grid.has(x, y, z) || !isType(type) || !isChannel(channel)) {
            return NO_SUCH_ELEMENT;
        }
        int cell = Grid.cell(x, y, z);
        int present = world.types[cell];
        world.types[cell] = type;
        lighting.find(world, channel, NOWHERE, trial);
        world.types[cell] = present;
        int sum = 0;
        for (int each = 0; each < CELLS; each++) {
            sum += trial[each];
        }
        return sum;
    }

    public int spread(int x, int y, int z, int channel) {
        if (!Grid.has(x, y, z) || !isColor(channel)) {
            return NO_SUCH_ELEMENT;
        }
        lighting.find(world, channel, Grid.cell(x, y, z), trial);
        int darker = 0;
        for (int cell = 0; cell < CELLS; cell++) {
            if (trial[cell] < lights[channel][cell]) {
                darker++;
            }
        }
        return darker;
    }

    public int needed(int x, int y, int z, int channel, int wanted) {
        if (!Grid.has(x, y, z) || !isColor(channel) || y == TOP) {
            return NO_SUCH_ELEMENT;
        }
        if (!isStrength(wanted)) {
            return BAD_VALUE;
        }
        int cell = Grid.cell(x, y, z);
        int above = cell + WIDTH;
        lighting.find(world, channel, cell, trial);
        if (trial[above] >= wanted) {
            return 0;
        }
        // Every way into the cell above costs its loss and 1, so none from the cell is better than the step up.
        int emission = wanted + 1 + world.lossAt(above, channel);
        return emission <= MOST ? emission : NONE;
    }

    // Chunks

    public int chunkSum(int chunk, int channel) {
        if (!isChunk(chunk) || !isChannel(channel)) {
            return NO_SUCH_ELEMENT;
        }
        int sum = 0;
        for (int cell = 0; cell < CELLS; cell++) {
            if (Grid.chunk(cell) == chunk) {
                sum += lights[channel][cell];
            }
        }
        return sum;
    }

    public int crossings(int chunk, int other, int channel) {
        if (!isChunk(chunk) || !isChunk(other) || !isChannel(channel)) {
            return NO_SUCH_ELEMENT;
        }
        if (chunk == other) {
            return BAD_VALUE;
        }
        int crossing = 0;
        for (int cell = 0; cell < CELLS; cell++) {
            if (Grid.chunk(cell) == chunk) {
                int giver = giverOf(cell, channel);
                if (giver != NOWHERE && Grid.chunk(giver) == other) {
                    crossing++;
                }
            }
        }
        return crossing;
    }

    // Statistics

    public int dark(int level) {
        if (!isStrength(level)) {
            return BAD_VALUE;
        }
        int count = 0;
        for (int cell = 0; cell < CELLS; cell++) {
            if (brightestColor(cell) <= level && lights[SUN][cell] <= level) {
                count++;
            }
        }
        return count;
    }

    public int skyHeight(int x, int z) {
        if (!Grid.has(x, 0, z)) {
            return NO_SUCH_ELEMENT;
        }
        int lowest = HEIGHT;
        for (int y = TOP; y >= 0 && lights[SUN][Grid.cell(x, y, z)] == MOST; y--) {
            lowest = y;
        }
        return lowest;
    }

    public int ray(int x, int y, int z, int direction, int channel) {
        if (!Grid.has(x, y, z) || direction < 0 || direction >= DIRECTIONS || !isChannel(channel)) {
            return NO_SUCH_ELEMENT;
        }
        int strength = MOST;
        int count = 0;
        int cell = Grid.neighbor(Grid.cell(x, y, z), direction);
        while (cell != NOWHERE && count < WIDTH) {
            int left = strength - world.lossAt(cell, channel);
            if (left <= 0) {
                break;
            }
            strength = left;
            count++;
            cell = Grid.neighbor(cell, direction);
        }
        return 16 * count + strength;
    }

    public int brightest(int channel) {
        if (!isChannel(channel)) {
            return NO_SUCH_ELEMENT;
        }
        int best = 0;
        for (int cell = 1; cell < CELLS; cell++) {
            if (lights[channel][cell] > lights[channel][best]) {
                best = cell;
            }
        }
        return lights[channel][best] > 0 ? Grid.number(best) : NONE;
    }

    public int regions(int level) {
        if (level < 1 || level > MOST) {
            return BAD_VALUE;
        }
        for (int cell = 0; cell < CELLS; cell++) {
            trial[cell] = brightestColor(cell) >= level ? 1 : 0;
        }
        int count = 0;
        for (int cell = 0; cell < CELLS; cell++) {
            if (trial[cell] == 1) {
                count++;
                leaveRegion(cell);
            }
        }
        return count;
    }

    public int isConsistent() {
        for (int channel = 0; channel < CHANNELS; channel++) {
            lighting.find(world, channel, NOWHERE, trial);
            for (int cell = 0; cell < CELLS; cell++) {
                if (trial[cell] != lights[channel][cell]) {
                    return 0;
                }
            }
        }
        return 1;
    }

    public int histogram(int channel, int light) {
        if (!isChannel(channel)) {
            return NO_SUCH_ELEMENT;
        }
        if (!isStrength(light)) {
            return BAD_VALUE;
        }
        int count = 0;
        for (int cell = 0; cell < CELLS; cell++) {
            if (lights[channel][cell] == light) {
                count++;
            }
        }
        return count;
    }

    public long checksum() {
        long sum = 17;
        for (int cell = 0; cell < CELLS; cell++) {
            sum = sum * 31 + world.types[cell] + 8L * packedLights(cell);
        }
        return sum;
    }

    // The saved copy

    public int save() {
        if (batch.isOpen) {
            return STATE;
        }
        saved.copyFrom(world);
        isSaved = true;
        return world.countFilled();
    }

    public int restore() {
        if (batch.isOpen) {
            return STATE;
        }
        if (!isSaved) {
            return NONE;
        }
        world.copyFrom(saved);
        history.size = 0;
        relight();
        clearEffect();
        return world.countFilled();
    }

    // Helpers

    private static boolean isType(int type) {
        return type >= 0 && type < TYPES;
    }

    private static boolean isChannel(int channel) {
        return channel >= 0 && channel < CHANNELS;
    }

    private static boolean isColor(int channel) {
        return channel >= 0 && channel < COLORS;
    }

    private static boolean isStrength(int strength) {
        return strength >= 0 && strength <= MOST;
    }

    private static boolean isChunk(int chunk) {
        return chunk >= 0 && chunk < CHUNKS;
    }

    private void clearEffect() {
        for (int cell = 0; cell < CELLS; cell++) {
            inEffect[cell] = false;
        }
        effectSize = 0;
    }

    /** Brings the lights up to date with the world; the cells whose lights change by it become the effect. */
    private int relight() {
        clearEffect();
        for (int channel = 0; channel < CHANNELS; channel++) {
            lighting.find(world, channel, NOWHERE, trial);
            takeTrial(lights[channel]);
        }
        return effectSize;
    }

    private void takeTrial(int[] present) {
        for (int cell = 0; cell < CELLS; cell++) {
            if (present[cell] != trial[cell]) {
                present[cell] = trial[cell];
                if (!inEffect[cell]) {
                    inEffect[cell] = true;
                    effectSize++;
                }
            }
        }
    }

    private int packedLights(int cell) {
        return lights[0][cell] + (lights[1][cell] << 4) + (lights[2][cell] << 8) + (lights[SUN][cell] << 12);
    }

    private int brightestColor(int cell) {
        return Math.max(lights[0][cell], Math.max(lights[1][cell], lights[2][cell]));
    }

    private int originOf(int cell, int channel) {
        int light = lights[channel][cell];
        if (light == 0) {
            return NONE;
        }
        if (light == world.emissionAt(cell, channel)) {
            return FROM_EMISSION;
        }
        int loss = world.lossAt(cell, channel);
        if (channel == SUN) {
            int above = Grid.neighbor(cell, UP);
            if (above == NOWHERE && light == MOST - loss) {
                return FROM_SKY;
            }
            if (above != NOWHERE && light == MOST && lights[SUN][above] == MOST && loss == 0) {
                return FROM_SUN_ABOVE;
            }
        }
        for (int direction = 0; direction < DIRECTIONS; direction++) {
            int neighbor = Grid.neighbor(cell, direction);
            if (neighbor != NOWHERE && lights[channel][neighbor] - 1 - loss == light) {
                return direction;
            }
        }
        return NONE;
    }

    /** The cell to which the way of a light leads from this one, or NOWHERE if it ends here. */
    private int giverOf(int cell, int channel) {
        int from = originOf(cell, channel);
        if (from == FROM_SUN_ABOVE) {
            return Grid.neighbor(cell, UP);
        }
        return from >= 0 && from < DIRECTIONS ? Grid.neighbor(cell, from) : NOWHERE;
    }

    /** Takes all cells of the region of a cell out of the trial, in which 1 marks the cells of regions. */
    private void leaveRegion(int cell) {
        int count = 1;
        waiting[0] = cell;
        trial[cell] = 0;
        for (int taken = 0; taken < count && taken < CELLS; taken++) {
            for (int direction = 0; direction < DIRECTIONS; direction++) {
                int neighbor = Grid.neighbor(waiting[taken], direction);
                if (neighbor != NOWHERE && trial[neighbor] == 1 && count < CELLS) {
                    trial[neighbor] = 0;
                    waiting[count] = neighbor;
                    count++;
                }
            }
        }
    }

    /** Cells are numbered by z, then y, then x, as the document orders them. */
    private static final class Grid {

        static boolean has(int x, int y, int z) {
            return x >= 0 && x < WIDTH && y >= 0 && y < HEIGHT && z >= 0 && z < WIDTH;
        }

        static int cell(int x, int y, int z) {
            return z * SLICE + y * WIDTH + x;
        }

        static int x(int cell) {
            return cell % WIDTH;
        }

        static int y(int cell) {
            return cell / WIDTH % HEIGHT;
        }

        static int z(int cell) {
            return cell / SLICE;
        }

        /** The number by which answers tell a cell. */
        static int number(int cell) {
            return 100 * z(cell) + 12 * y(cell) + x(cell);
        }

        static int chunk(int cell) {
            return CHUNKS_IN_ROW * (z(cell) / CHUNK_WIDTH) + x(cell) / CHUNK_WIDTH;
        }

        static int neighbor(int cell, int direction) {
            switch (direction) {
                case 0:
                    return x(cell) > 0 ? cell - 1 : NOWHERE;
                case 1:
                    return x(cell) < WIDTH - 1 ? cell + 1 : NOWHERE;
                case 2:
                    return y(cell) > 0 ? cell - WIDTH : NOWHERE;
                case UP:
                    return y(cell) < TOP ? cell + WIDTH : NOWHERE;
                case 4:
                    return z(cell) > 0 ? cell - SLICE : NOWHERE;
                case 5:
                    return z(cell) < WIDTH - 1 ? cell + SLICE : NOWHERE;
                default:
                    return NOWHERE;
            }
        }
    }

    /** All that a change can change by itself; lights follow from it. */
    private static final class World {
        final int[] types = new int[CELLS];
        final int[] losses = new int[TYPES * CHANNELS];
        // The sun has a place for each type, too, which stays 0, so that no question needs to except it.
        final int[] emissions = new int[TYPES * CHANNELS];

        World() {
            for (int channel = 0; channel < CHANNELS; channel++) {
                losses[SOLID * CHANNELS + channel] = MOST;
            }
        }

        void copyFrom(World other) {
            System.arraycopy(other.types, 0, types, 0, CELLS);
            System.arraycopy(other.losses, 0, losses, 0, TYPES * CHANNELS);
            System.arraycopy(other.emissions, 0, emissions, 0, TYPES * CHANNELS);
        }

        int lossAt(int cell, int channel) {
            return losses[types[cell] * CHANNELS + channel];
        }

        int emissionAt(int cell, int channel) {
            return emissions[types[cell] * CHANNELS + channel];
        }

        /** Sets all cells of the box that has these two corners, the first one with the least coordinates. */
        void setBox(int first, int last, int type) {
            for (int cell = first; cell <= last; cell++) {
                if (Grid.x(cell) >= Grid.x(first) && Grid.x(cell) <= Grid.x(last)
                        && Grid.y(cell) >= Grid.y(first) && Grid.y(cell) <= Grid.y(last)) {
                    types[cell] = type;
                }
            }
        }

        int countFilled() {
            int count = 0;
            for (int cell = 0; cell < CELLS; cell++) {
                if (types[cell] != 0) {
                    count++;
                }
            }
            return count;
        }
    }

    /**
     * Finds lights from the brightest level down. What a cell takes from a neighbor is less than the neighbor's
     * light, and its own loss is the same for all neighbors, so the first neighbor to give gives the most: no cell
     * gets more than one light of its own and one from a neighbor.
     */
    private static final class Lighting {
        private static final int ENTRIES = 2 * CELLS;

        // A chain of entries for each level; NOWHERE ends it.
        private final int[] firstOfLevel = new int[MOST + 1];
        private final int[] nextEntry = new int[ENTRIES];
        private final int[] cellOfEntry = new int[ENTRIES];
        private int entries = 0;

        /** Puts the lights of a channel into found, with no emission in the unlit cell, which may be NOWHERE. */
        void find(World world, int channel, int unlit, int[] found) {
            entries = 0;
            for (int level = 0; level <= MOST; level++) {
                firstOfLevel[level] = NOWHERE;
            }
            if (channel == SUN) {
                enterSun(world, found);
            } else {
                enterEmissions(world, channel, unlit, found);
            }
            for (int level = MOST; level > 1; level--) {
                int entry = firstOfLevel[level];
                for (int count = 0; entry != NOWHERE && count < ENTRIES; count++) {
                    if (found[cellOfEntry[entry]] == level) {
                        give(world, channel, cellOfEntry[entry], found);
                    }
                    entry = nextEntry[entry];
                }
            }
        }

        private void enterEmissions(World world, int channel, int unlit, int[] found) {
            for (int cell = 0; cell < CELLS; cell++) {
                enter(cell, cell == unlit ? 0 : world.emissionAt(cell, channel), found);
            }
        }

        private void enterSun(World world, int[] found) {
            for (int z = 0; z < WIDTH; z++) {
                for (int y = TOP; y >= 0; y--) {
                    for (int x = 0; x < WIDTH; x++) {
                        int cell = Grid.cell(x, y, z);
                        int loss = world.lossAt(cell, SUN);
                        if (y == TOP) {
                            enter(cell, MOST - loss, found);
                        } else {
                            enter(cell, loss == 0 && found[cell + WIDTH] == MOST ? MOST : 0, found);
                        }
                    }
                }
            }
        }

        private void give(World world, int channel, int cell, int[] found) {
            int given = found[cell] - 1;
            for (int direction = 0; direction < DIRECTIONS; direction++) {
                int neighbor = Grid.neighbor(cell, direction);
                if (neighbor != NOWHERE && found[neighbor] < given) {
                    int light = given - world.lossAt(neighbor, channel);
                    if (light > found[neighbor]) {
                        enter(neighbor, light, found);
                    }
                }
            }
        }

        private void enter(int cell, int light, int[] found) {
            found[cell] = light;
            if (light > 0 && light <= MOST && entries < ENTRIES) {
                cellOfEntry[entries] = cell;
                nextEntry[entries] = firstOfLevel[light];
                firstOfLevel[light] = entries;
                entries++;
            }
        }
    }

    /** The edits that wait for the batch to be closed, one for each cell at most. */
    private static final class Batch {
        private final int[] cells = new int[BATCH_EDITS];
        private final int[] newTypes = new int[BATCH_EDITS];
        int size = 0;
        boolean isOpen = false;

        int collect(int cell, int type) {
            int place = 0;
            while (place < size && cells[place] != cell) {
                place++;
            }
            if (place >= BATCH_EDITS) {
                return FULL;
            }
            if (place == size) {
                size++;
            }
            cells[place] = cell;
            newTypes[place] = type;
            return size;
        }

        void makeEdits(World world) {
            for (int edit = 0; edit < size; edit++) {
                world.types[cells[edit]] = newTypes[edit];
            }
        }

        void leave() {
            size = 0;
            isOpen = false;
        }
    }

    /** The worlds before the latest changes; a new one takes the place of the oldest if there is no other. */
    private static final class History {
        private final World[] earlier = new World[UNDOABLE];
        private int newest = 0;
        int size = 0;

        History() {
            for (int place = 0; place < UNDOABLE; place++) {
                earlier[place] = new World();
            }
        }

        void push(World world) {
            newest = (newest + 1) % UNDOABLE;
            earlier[newest].copyFrom(world);
            size = Math.min(size + 1, UNDOABLE);
        }

        void pop(World world) {
            world.copyFrom(earlier[newest]);
            newest = (newest + UNDOABLE - 1) % UNDOABLE;
            size--;
        }
    }

    /** The text: first it is read as a whole, then all its numbers are looked at, and only then it is executed. */
    private static final class CommandText {
        private static final int MOST_SIGNS = 60;
        private static final int MOST_COMMANDS = MOST_SIGNS / 6; // the shortest one is like l0,0,0
        private static final int MOST_NUMBERS = 7;

        private final char[] signs = new char[MOST_SIGNS];
        int length = 0;
        private int position = 0;

        private final char[] kinds = new char[MOST_COMMANDS];
        private final int[] starts = new int[MOST_COMMANDS];
        private final int[][] numbers = new int[MOST_COMMANDS][MOST_NUMBERS];
        int commands = 0;

        int add(int packed) {
            int more = 0;
            for (int shift = 24; shift >= 0; shift -= 8) {
                int sign = packed >>> shift & 255;
                if (sign != 0 && (sign < 33 || sign > 126)) {
                    return BAD_VALUE;
                }
                more += sign != 0 ? 1 : 0;
            }
            if (length + more > MOST_SIGNS) {
                return FULL;
            }
            for (int shift = 24; shift >= 0; shift -= 8) {
                int sign = packed >>> shift & 255;
                if (sign != 0 && length < MOST_SIGNS) {
                    signs[length] = (char) sign;
                    length++;
                }
            }
            return length;
        }

        /** Finds the commands; returns the position of the fault, or NONE. */
        int parse() {
            commands = 0;
            position = 0;
            for (int command = 0; command < MOST_COMMANDS; command++) {
                if (!parseCommand(command)) {
                    return position;
                }
                commands++;
                if (position >= length) {
                    return NONE;
                }
                if (!skip(';')) {
                    return position;
                }
            }
            return position;
        }

        private boolean parseCommand(int command) {
            char kind = position < length ? signs[position] : ' ';
            int count = countOfNumbers(kind);
            if (count == 0) {
                return false;
            }
            kinds[command] = kind;
            starts[command] = position;
            position++;
            for (int index = 0; index < count; index++) {
                if (index > 0 && !skip(index == count - 1 ? lastSeparator(kind) : ',')) {
                    return false;
                }
                if (!parseNumber(command, index)) {
                    return false;
                }
            }
            return true;
        }

        private boolean parseNumber(int command, int index) {
            if (!isDigitNext()) {
                return false;
            }
            int number = signs[position] - '0';
            position++;
            if (isDigitNext()) {
                number = 10 * number + signs[position] - '0';
                position++;
            }
            numbers[command][index] = number;
            return true;
        }

        private boolean isDigitNext() {
            return position < length && signs[position] >= '0' && signs[position] <= '9';
        }

        private boolean skip(char sign) {
            if (position >= length || signs[position] != sign) {
                return false;
            }
            position++;
            return true;
        }

        private static int countOfNumbers(char kind) {
            switch (kind) {
                case 's':
                    return 4;
                case 'f':
                    return 7;
                case 'l':
                case 'e':
                    return 3;
                default:
                    return 0;
            }
        }

        private static char lastSeparator(char kind) {
            return kind == 's' || kind == 'f' ? '=' : ',';
        }

        /** The start of the first command that is refused, or NONE. */
        int firstRefused() {
            for (int command = 0; command < commands; command++) {
                if (isRefused(kinds[command], numbers[command])) {
                    return starts[command];
                }
            }
            return NONE;
        }

        private static boolean isRefused(char kind, int[] n) {
            switch (kind) {
                case 's':
                    return !Grid.has(n[0], n[1], n[2]) || !isType(n[3]);
                case 'f':
                    return !Grid.has(n[0], n[1], n[2]) || !Grid.has(n[3], n[4], n[5]) || !isType(n[6])
                            || n[3] < n[0] || n[4] < n[1] || n[5] < n[2];
                case 'l':
                    return !isType(n[0]) || !isChannel(n[1]) || !isStrength(n[2]);
                case 'e':
                    return !isType(n[0]) || !isColor(n[1]) || !isStrength(n[2]);
                default:
                    return true;
            }
        }

        void execute(World world) {
            for (int command = 0; command < commands; command++) {
                make(kinds[command], numbers[command], world);
            }
        }

        private static void make(char kind, int[] n, World world) {
            switch (kind) {
                case 's':
                    world.types[Grid.cell(n[0], n[1], n[2])] = n[3];
                    break;
                case 'f':
                    world.setBox(Grid.cell(n[0], n[1], n[2]), Grid.cell(n[3], n[4], n[5]), n[6]);
                    break;
                case 'l':
                    world.losses[n[0] * CHANNELS + n[1]] = n[2];
                    break;
                case 'e':
                    world.emissions[n[0] * CHANNELS + n[1]] = n[2];
                    break;
                default:
                    break;
            }
        }
    }
}

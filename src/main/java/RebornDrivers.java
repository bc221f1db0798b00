import java.util.Arrays;

/**
 * A small system whose drivers may fail at any step: a file server with a cache, a terminal server, a disk and a
 * console driver, and a reincarnation server that restarts drivers which are dead or silent.
 */
public final class RebornDrivers {
    private static final int USERS = 4;
    private static final int BLOCKS = 16;
    private static final int SLOTS = 3;
    private static final int OUTPUT_LIMIT = 200;

    private static final int LEAST_PERIOD = 2;
    private static final int GREATEST_PERIOD = 20;
    private static final int USUAL_PERIOD = 5;

    private static final int FIRST_CHARACTER = 32;
    private static final int LAST_CHARACTER = 126;

    private static final int DISK = 0;
    private static final int CONSOLE = 1;
    private static final int FILE_SERVER = 0;
    private static final int TERMINAL = 1;

    /** Stands for an empty slot's block, for "no slot" and for the stage of a driver without a request. */
    private static final int NONE = -1;

    private final int pingPeriod;
    private final Operation[] operations = new Operation[USERS];
    private final Line fileLine = new Line();
    private final Line terminalLine = new Line();
    private final Driver disk = new Driver();
    private final Driver console = new Driver();
    private final Request fileRequest = new Request();
    private final Request terminalRequest = new Request();
    private final Cache cache = new Cache();
    private final int[] deviceBlocks = new int[BLOCKS];
    private final int[] putOut = new int[OUTPUT_LIMIT];
    private int putOutLength;
    private int buffer;
    private int time;

    public RebornDrivers(int h) {
        pingPeriod = h >= LEAST_PERIOD && h <= GREATEST_PERIOD ? h : USUAL_PERIOD;
        for (int u = 0; u < USERS; u++) {
            operations[u] = new Operation();
        }
    }

    // ---- What users begin ----

    public boolean read(int u, int b) {
        if (!isFree(u) || !isBlock(b)) {
            return false;
        }
        operations[u].begin(Operation.READ, b, 0);
        fileLine.join(u);
        return true;
    }

    public boolean write(int u, int b, int v) {
        if (!isFree(u) || !isBlock(b)) {
            return false;
        }
        operations[u].begin(Operation.WRITE, b, v);
        fileLine.join(u);
        return true;
    }

    public boolean sync(int u) {
        if (!isFree(u)) {
            return false;
        }
        operations[u].begin(Operation.SYNC, NONE, 0);
        fileLine.join(u);
        return true;
    }

    public boolean print(int u, int c) {
        if (!isFree(u) || c < FIRST_CHARACTER || c > LAST_CHARACTER) {
            return false;
        }
        operations[u].begin(Operation.PRINT, NONE, c);
        terminalLine.join(u);
        return true;
    }

    // ---- What happens ----

    public int tick() {
        time++;
        boolean pingIsDue = time % pingPeriod == 0;
        disk.beWatched(pingIsDue);
        console.beWatched(pingIsDue);
        stepDisk();
        stepConsole();
        int ended = serveFiles();
        ended += serveTerminal();
        return ended;
    }

    public boolean fault(int d, int k) {
        if (!isDriver(d) || k < Driver.KILLED || k > Driver.BAD_GRANT) {
            return false;
        }
        return driverOf(d).suffer(k);
    }

    // ---- What can be looked at ----

    public int state(int u) {
        return isUser(u) ? operations[u].state : -1;
    }

    public int result(int u) {
        return isUser(u) ? operations[u].result : 0;
    }

    public int line(int s) {
        if (s == FILE_SERVER) {
            return fileLine.length;
        }
        return s == TERMINAL ? terminalLine.length : -1;
    }

    public int device(int b) {
        return isBlock(b) ? deviceBlocks[b] : 0;
    }

    public int slot(int i, int k) {
        if (i < 0 || i >= SLOTS) {
            return -1;
        }
        switch (k) {
            case 0:
                return cache.blocks[i];
            case 1:
                return cache.blocks[i] == NONE ? 0 : cache.values[i];
            case 2:
                return cache.dirty[i] ? 1 : 0;
            default:
                return -1;
        }
    }

    public int output(int i) {
        if (i == -1) {
            return putOutLength;
        }
        return i >= 0 && i < putOutLength ? putOut[i] : -2;
    }

    public int driver(int d, int k) {
        if (!isDriver(d)) {
            return -2;
        }
        Driver asked = driverOf(d);
        switch (k) {
            case 0:
                return asked.endpoint;
            case 1:
                return asked.condition;
            case 2:
                return asked.stage;
            case 3:
                return asked.refusals;
            case 4:
                return asked.hasAnswered ? 1 : 0;
            default:
                return -2;
        }
    }

    public int request(int s) {
        if (s == FILE_SERVER) {
            return fileRequest.progress();
        }
        return s == TERMINAL ? terminalRequest.progress() : -1;
    }

    public int now() {
        return time;
    }

    // ---- Who and what there is ----

    private static boolean isUser(int u) {
        return u >= 0 && u < USERS;
    }

    private static boolean isBlock(int b) {
        return b >= 0 && b < BLOCKS;
    }

    private static boolean isDriver(int d) {
        return d == DISK || d == CONSOLE;
    }

    private boolean isFree(int u) {
        return isUser(u) && operations[u].state != Operation.PENDING;
    }

    private Driver driverOf(int d) {
        return d == DISK ? disk : console;
    }

    // ---- The drivers' part of a tick ----

    private void stepDisk() {
        int worked = disk.takeStep();
        if (worked == Driver.DOING) {
            moveBlock();
        } else if (worked == Driver.ANSWERING) {
            fileRequest.answered = true;
        }
    }

    private void moveBlock() {
        if (fileRequest.kind == Request.READ_IN) {
            buffer = deviceBlocks[fileRequest.block];
        } else {
            deviceBlocks[fileRequest.block] = cache.values[fileRequest.slot];
        }
    }

    private void stepConsole() {
        int worked = console.takeStep();
        if (worked == Driver.DOING) {
            putOutCharacter(terminalRequest.character);
        } else if (worked == Driver.ANSWERING) {
            terminalRequest.answered = true;
        }
    }

    private void putOutCharacter(int c) {
        if (putOutLength < OUTPUT_LIMIT) {
            putOut[putOutLength] = c;
            putOutLength++;
        }
    }

    // ---- The file server's part of a tick; it says how many operations ended ----

    private int serveFiles() {
        if (fileRequest.isOpen()) {
            if (!fileRequest.answered) {
                if (!fileRequest.given || fileRequest.wasGivenElsewhere(disk)) {
                    fileRequest.giveTo(disk);
                }
                return 0;
            }
            takeDiskAnswer();
        }
        if (fileLine.isEmpty()) {
            return 0;
        }
        if (!goOnWith(operations[fileLine.head()])) {
            return 0;
        }
        fileLine.dropHead();
        return 1;
    }

    private void takeDiskAnswer() {
        if (fileRequest.kind == Request.READ_IN) {
            cache.hold(fileRequest.slot, fileRequest.block, buffer, false);
        } else {
            cache.dirty[fileRequest.slot] = false;
        }
        fileRequest.close();
    }

    private boolean goOnWith(Operation operation) {
        if (operation.kind == Operation.SYNC) {
            return goOnWithSync(operation);
        }
        int s = cache.find(operation.block);
        if (s == NONE) {
            return makeRoomFor(operation);
        }
        cache.usedAt[s] = time;
        if (operation.kind == Operation.READ) {
            operation.finish(cache.values[s]);
        } else {
            cache.hold(s, operation.block, operation.value, true);
            operation.finish(0);
        }
        return true;
    }

    private boolean makeRoomFor(Operation operation) {
        int s = cache.slotToFill();
        if (cache.dirty[s]) {
            askToWriteOut(s);
            return false;
        }
        if (operation.kind == Operation.READ) {
            cache.empty(s);
            askToReadIn(operation.block, s);
            return false;
        }
        cache.hold(s, operation.block, operation.value, true);
        cache.usedAt[s] = time;
        operation.finish(0);
        return true;
    }

    private boolean goOnWithSync(Operation operation) {
        int s = cache.dirtySlotOfLowestBlock();
        if (s == NONE) {
            operation.finish(operation.writesAsked);
            return true;
        }
        operation.writesAsked++;
        askToWriteOut(s);
        return false;
    }

    private void askToWriteOut(int s) {
        fileRequest.open(Request.WRITE_OUT);
        fileRequest.block = cache.blocks[s];
        fileRequest.slot = s;
        fileRequest.giveTo(disk);
    }

    private void askToReadIn(int b, int s) {
        fileRequest.open(Request.READ_IN);
        fileRequest.block = b;
        fileRequest.slot = s;
        fileRequest.giveTo(disk);
    }

    // ---- The terminal's part of a tick; it says how many operations ended ----

    private int serveTerminal() {
        int ended = 0;
        if (terminalRequest.isOpen()) {
            if (terminalRequest.answered) {
                operations[terminalLine.head()].finish(0);
            } else if (terminalRequest.wasGivenElsewhere(console)) {
                // The character may be out already, so the request is not given once more.
                operations[terminalLine.head()].fail();
            } else {
                if (!terminalRequest.given) {
                    terminalRequest.giveTo(console);
                }
                return 0;
            }
            terminalRequest.close();
            terminalLine.dropHead();
            ended = 1;
        }
        if (!terminalLine.isEmpty()) {
            askToPutOut(operations[terminalLine.head()].value);
        }
        return ended;
    }

    private void askToPutOut(int c) {
        terminalRequest.open(Request.PUT_OUT);
        terminalRequest.character = c;
        terminalRequest.giveTo(console);
    }

    // ---- The parts ----

    /** The latest operation of a user; the same object serves for all of them, one after the other. */
    private static final class Operation {
        private static final int READ = 0;
        private static final int WRITE = 1;
        private static final int SYNC = 2;
        private static final int PRINT = 3;

        private static final int PENDING = 1;
        private static final int DONE = 2;
        private static final int FAILED = 3;

        private static final int RESULT_OF_FAILURE = -5;

        private int kind;
        private int block;
        private int value;
        private int writesAsked;
        private int state;
        private int result;

        private void begin(int newKind, int newBlock, int newValue) {
            kind = newKind;
            block = newBlock;
            value = newValue;
            writesAsked = 0;
            state = PENDING;
            result = 0;
        }

        private void finish(int newResult) {
            state = DONE;
            result = newResult;
        }

        private void fail() {
            state = FAILED;
            result = RESULT_OF_FAILURE;
        }
    }

    /** The users whose operations wait for a server, in the order in which they were begun. */
    private static final class Line {
        private final int[] users = new int[USERS];
        private int length;

        private boolean isEmpty() {
            return length == 0;
        }

        private int head() {
            return users[0];
        }

        /** There is always room: a user has one operation at a time. It is looked at so that no index can go wrong. */
        private void join(int u) {
            if (length < USERS) {
                users[length] = u;
                length++;
            }
        }

        private void dropHead() {
            for (int i = 1; i < length; i++) {
                users[i - 1] = users[i];
            }
            length = Math.max(length - 1, 0);
        }
    }

    /**
     * A driver. Only a restart changes its endpoint, and publishes it at once, so that the published endpoint needs no
     * place of its own. What its request asks for stands with the one server that gives requests to it.
     */
    private static final class Driver {
        private static final int ALIVE = 0;
        private static final int HUNG = 1;
        private static final int DEAD = 2;

        private static final int KILLED = 0;
        private static final int MADE_TO_HANG = 1;
        private static final int BAD_SEND = 2;
        private static final int BAD_GRANT = 3;
        private static final int NOT_BAD = 0;

        private static final int STARTING = 0;
        private static final int DOING = 1;
        private static final int ANSWERING = 2;

        private int endpoint;
        private int condition = ALIVE;
        private int stage = NONE;
        private boolean hasAnswered = true;
        private int badness = NOT_BAD;
        private int refusals;

        private boolean suffer(int fault) {
            if (condition == DEAD || condition == HUNG && fault != KILLED) {
                return false;
            }
            if (fault == KILLED) {
                die();
            } else if (fault == MADE_TO_HANG) {
                condition = HUNG;
            } else {
                badness = fault;
            }
            return true;
        }

        private void die() {
            condition = DEAD;
            stage = NONE;
            badness = NOT_BAD;
        }

        private void beWatched(boolean pingIsDue) {
            if (condition == DEAD || pingIsDue && !hasAnswered) {
                restart();
            } else if (pingIsDue) {
                hasAnswered = false;
            }
        }

        private void restart() {
            endpoint++;
            condition = ALIVE;
            stage = NONE;
            hasAnswered = true;
            badness = NOT_BAD;
        }

        /** Answers the stage that was worked on, NONE if the request was not worked on. */
        private int takeStep() {
            if (condition != ALIVE) {
                return NONE;
            }
            hasAnswered = true;
            if (badness != NOT_BAD) {
                beRefused();
                return NONE;
            }
            int worked = stage;
            if (worked == ANSWERING) {
                stage = NONE;
            } else if (worked != NONE) {
                stage++;
            }
            return worked;
        }

        private void beRefused() {
            refusals++;
            if (badness == BAD_GRANT) {
                die();
            }
            badness = NOT_BAD;
        }
    }

    /** What a server wants of its driver; the same object serves for all its requests, one after the other. */
    private static final class Request {
        private static final int NOTHING = 0;
        private static final int READ_IN = 1;
        private static final int WRITE_OUT = 2;
        private static final int PUT_OUT = 3;

        private int kind = NOTHING;
        private int block;
        private int slot;
        private int character;
        private boolean given;
        private boolean answered;
        private int givenTo;

        private boolean isOpen() {
            return kind != NOTHING;
        }

        private void open(int newKind) {
            kind = newKind;
            given = false;
            answered = false;
        }

        private void close() {
            kind = NOTHING;
        }

        private boolean wasGivenElsewhere(Driver driver) {
            return given && givenTo != driver.endpoint;
        }

        private void giveTo(Driver driver) {
            if (driver.condition == Driver.DEAD) {
                given = false;
                return;
            }
            driver.stage = Driver.STARTING;
            given = true;
            answered = false;
            givenTo = driver.endpoint;
        }

        private int progress() {
            if (!isOpen()) {
                return 0;
            }
            return given ? 2 : 1;
        }
    }

    /** The file server's slots. In a tick it uses one slot at most, so the tick says which was used longest ago. */
    private static final class Cache {
        private final int[] blocks = new int[SLOTS];
        private final int[] values = new int[SLOTS];
        private final boolean[] dirty = new boolean[SLOTS];
        private final int[] usedAt = new int[SLOTS];

        private Cache() {
            Arrays.fill(blocks, NONE);
        }

        private int find(int block) {
            for (int s = 0; s < SLOTS; s++) {
                if (blocks[s] == block) {
                    return s;
                }
            }
            return NONE;
        }

        private int slotToFill() {
            int lowestEmpty = find(NONE);
            if (lowestEmpty != NONE) {
                return lowestEmpty;
            }
            int oldest = 0;
            for (int s = 1; s < SLOTS; s++) {
                if (usedAt[s] < usedAt[oldest]) {
                    oldest = s;
                }
            }
            return oldest;
        }

        private int dirtySlotOfLowestBlock() {
            int lowest = NONE;
            for (int s = 0; s < SLOTS; s++) {
                if (dirty[s] && (lowest == NONE || blocks[s] < blocks[lowest])) {
                    lowest = s;
                }
            }
            return lowest;
        }

        private void hold(int s, int block, int value, boolean isDirty) {
            blocks[s] = block;
            values[s] = value;
            dirty[s] = isDirty;
        }

        private void empty(int s) {
            hold(s, NONE, 0, false);
        }
    }
}

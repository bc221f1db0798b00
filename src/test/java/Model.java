import java.util.ArrayDeque;
import java.util.ArrayList;
import java.util.Deque;
import java.util.List;

/**
 * The document's "Terms" once more, as near to its words as can be and without regard to cost: a driver has the request
 * itself, endpoints are published apart from the drivers, and the use of slots is kept as a list.
 */
final class Model {
    enum Kind { READ, WRITE, SYNC, PRINT }

    enum Bad { NO, SEND, GRANT }

    static final class Operation {
        final Kind kind;
        final int block;
        final int value;
        int state = 1;
        int result;
        int requestsMade;

        Operation(Kind kind, int block, int value) {
            this.kind = kind;
            this.block = block;
            this.value = value;
        }
    }

    static final class Request {
        final boolean toRead;
        final int block;
        final Slot slot;
        final int character;
        boolean given;
        boolean answered;
        int endpoint;

        Request(boolean toRead, int block, Slot slot, int character) {
            this.toRead = toRead;
            this.block = block;
            this.slot = slot;
            this.character = character;
        }
    }

    static final class Driver {
        int endpoint;
        String life = "alive";
        Request request;
        int stage;
        boolean answered = true;
        Bad bad = Bad.NO;
        int refusals;
    }

    static final class Slot {
        Integer block;
        int value;
        boolean dirty;
    }

    final int h;
    int now;
    final Operation[] latest = new Operation[4];
    final Deque<Operation> files = new ArrayDeque<>();
    final Deque<Operation> prints = new ArrayDeque<>();
    final int[] device = new int[16];
    int buffer;
    final StringBuilder output = new StringBuilder();
    final Driver[] drivers = {new Driver(), new Driver()};
    final int[] published = {0, 0};
    final Slot[] slots = {new Slot(), new Slot(), new Slot()};
    /** The slots that were used, the one used longest ago first. */
    final List<Slot> used = new ArrayList<>();
    Request fileRequest;
    Request terminalRequest;
    int ended;

    Model(int h) {
        this.h = h < 2 || h > 20 ? 5 : h;
    }

    boolean read(int u, int b) {
        return begin(u, new Operation(Kind.READ, b, 0));
    }

    boolean write(int u, int b, int v) {
        return begin(u, new Operation(Kind.WRITE, b, v));
    }

    boolean sync(int u) {
        return begin(u, new Operation(Kind.SYNC, 0, 0));
    }

    boolean print(int u, int c) {
        return begin(u, new Operation(Kind.PRINT, 0, c));
    }

    private boolean begin(int u, Operation operation) {
        boolean blockIsWrong = (operation.kind == Kind.READ || operation.kind == Kind.WRITE)
                && (operation.block < 0 || operation.block > 15);
        boolean characterIsWrong = operation.kind == Kind.PRINT && (operation.value < 32 || operation.value > 126);
        if (u < 0 || u > 3 || blockIsWrong || characterIsWrong || latest[u] != null && latest[u].state == 1) {
            return false;
        }
        latest[u] = operation;
        (operation.kind == Kind.PRINT ? prints : files).addLast(operation);
        return true;
    }

    boolean fault(int d, int k) {
        if (d < 0 || d > 1 || k < 0 || k > 3) {
            return false;
        }
        Driver driver = drivers[d];
        if (driver.life.equals("dead") || driver.life.equals("hung") && k != 0) {
            return false;
        }
        switch (k) {
            case 0 -> {
                driver.life = "dead";
                driver.request = null;
            }
            case 1 -> driver.life = "hung";
            case 2 -> driver.bad = Bad.SEND;
            default -> driver.bad = Bad.GRANT;
        }
        return true;
    }

    int tick() {
        now++;
        ended = 0;
        reincarnate(0);
        reincarnate(1);
        step(0);
        step(1);
        fileServer();
        terminal();
        return ended;
    }

    private void reincarnate(int d) {
        Driver driver = drivers[d];
        if (driver.life.equals("dead")) {
            restart(d);
        } else if (now % h == 0) {
            if (!driver.answered) {
                restart(d);
            } else {
                driver.answered = false;
            }
        }
    }

    private void restart(int d) {
        Driver reborn = new Driver();
        reborn.endpoint = drivers[d].endpoint + 1;
        reborn.refusals = drivers[d].refusals;
        drivers[d] = reborn;
        published[d] = reborn.endpoint;
    }

    private void step(int d) {
        Driver driver = drivers[d];
        if (!driver.life.equals("alive")) {
            return;
        }
        driver.answered = true;
        if (driver.bad == Bad.SEND) {
            driver.refusals++;
            driver.bad = Bad.NO;
        } else if (driver.bad == Bad.GRANT) {
            driver.refusals++;
            driver.life = "dead";
            driver.request = null;
        } else if (driver.request != null && driver.stage == 0) {
            driver.stage = 1;
        } else if (driver.request != null && driver.stage == 1) {
            carryOut(d, driver.request);
            driver.stage = 2;
        } else if (driver.request != null) {
            driver.request.answered = true;
            driver.request = null;
        }
    }

    private void carryOut(int d, Request request) {
        if (d == 1) {
            if (output.length() < 200) {
                output.append((char) request.character);
            }
        } else if (request.toRead) {
            buffer = device[request.block];
        } else {
            device[request.block] = request.slot.value;
        }
    }

    private void give(Request request, int d) {
        Driver driver = drivers[d];
        if (driver.life.equals("dead")) {
            request.given = false;
        } else {
            driver.request = request;
            driver.stage = 0;
            request.answered = false;
            request.given = true;
            request.endpoint = driver.endpoint;
        }
    }

    private void fileServer() {
        if (fileRequest != null && fileRequest.answered) {
            if (fileRequest.toRead) {
                fileRequest.slot.block = fileRequest.block;
                fileRequest.slot.value = buffer;
            }
            fileRequest.slot.dirty = false;
            fileRequest = null;
        } else if (fileRequest != null) {
            if (!fileRequest.given || fileRequest.endpoint != published[0]) {
                give(fileRequest, 0);
            }
            return;
        }
        Operation head = files.peekFirst();
        if (head != null && head.kind == Kind.SYNC) {
            goOnWithSync(head);
        } else if (head != null) {
            goOnWithBlock(head);
        }
    }

    private void goOnWithSync(Operation sync) {
        for (int b = 0; b < 16; b++) {
            for (Slot slot : slots) {
                if (slot.block != null && slot.block == b && slot.dirty) {
                    sync.requestsMade++;
                    fileRequest = new Request(false, b, slot, 0);
                    give(fileRequest, 0);
                    return;
                }
            }
        }
        end(files, 2, sync.requestsMade);
    }

    private void goOnWithBlock(Operation head) {
        for (Slot slot : slots) {
            if (slot.block != null && slot.block == head.block) {
                use(slot);
                if (head.kind == Kind.WRITE) {
                    slot.value = head.value;
                    slot.dirty = true;
                }
                end(files, 2, head.kind == Kind.READ ? slot.value : 0);
                return;
            }
        }
        Slot s = toFill();
        if (s.dirty) {
            fileRequest = new Request(false, s.block, s, 0);
            give(fileRequest, 0);
        } else if (head.kind == Kind.READ) {
            s.block = null;
            fileRequest = new Request(true, head.block, s, 0);
            give(fileRequest, 0);
        } else {
            s.block = head.block;
            s.value = head.value;
            s.dirty = true;
            use(s);
            end(files, 2, 0);
        }
    }

    private Slot toFill() {
        for (Slot slot : slots) {
            if (slot.block == null) {
                return slot;
            }
        }
        return used.get(0);
    }

    private void use(Slot slot) {
        used.remove(slot);
        used.add(slot);
    }

    private void end(Deque<Operation> line, int state, int result) {
        Operation head = line.removeFirst();
        head.state = state;
        head.result = result;
        ended++;
    }

    private void terminal() {
        if (terminalRequest != null) {
            if (terminalRequest.answered) {
                end(prints, 2, 0);
            } else if (terminalRequest.given && terminalRequest.endpoint != published[1]) {
                end(prints, 3, -5);
            } else {
                if (!terminalRequest.given) {
                    give(terminalRequest, 1);
                }
                return;
            }
            terminalRequest = null;
        }
        if (!prints.isEmpty()) {
            terminalRequest = new Request(false, 0, null, prints.peekFirst().value);
            give(terminalRequest, 1);
        }
    }

    int state(int u) {
        return u < 0 || u > 3 ? -1 : latest[u] == null ? 0 : latest[u].state;
    }

    int result(int u) {
        return u < 0 || u > 3 || latest[u] == null ? 0 : latest[u].result;
    }

    int line(int s) {
        return s == 0 ? files.size() : s == 1 ? prints.size() : -1;
    }

    int device(int b) {
        return b < 0 || b > 15 ? 0 : device[b];
    }

    int slot(int i, int k) {
        if (i < 0 || i > 2) {
            return -1;
        }
        Slot slot = slots[i];
        return switch (k) {
            case 0 -> slot.block == null ? -1 : slot.block;
            case 1 -> slot.block == null ? 0 : slot.value;
            case 2 -> slot.dirty ? 1 : 0;
            default -> -1;
        };
    }

    int output(int i) {
        return i == -1 ? output.length() : i >= 0 && i < output.length() ? output.charAt(i) : -2;
    }

    int driver(int d, int k) {
        if (d < 0 || d > 1) {
            return -2;
        }
        Driver driver = drivers[d];
        return switch (k) {
            case 0 -> driver.endpoint;
            case 1 -> List.of("alive", "hung", "dead").indexOf(driver.life);
            case 2 -> driver.request == null ? -1 : driver.stage;
            case 3 -> driver.refusals;
            case 4 -> driver.answered ? 1 : 0;
            default -> -2;
        };
    }

    int request(int s) {
        if (s != 0 && s != 1) {
            return -1;
        }
        Request request = s == 0 ? fileRequest : terminalRequest;
        return request == null ? 0 : request.given ? 2 : 1;
    }

    int now() {
        return now;
    }
}

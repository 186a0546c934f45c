/** A house of linked devices whose acts are chosen by what a device is. */
public final class LineOfHeirs {
    public static final int NONE = -1;

    private static final int MOST_DEVICES = 300;
    private static final int MOST_LINKS = 400;

    private static final int DONE = 0;
    private static final int NO_SUCH_NUMBER = 1;
    private static final int WAY_NOT_BORNE = 2;
    private static final int ACT_NOT_OF_WAY = 3;
    private static final int NO_ROOM = 5;

    private static final int ACTS = 12;
    private static final int READ = 0;
    private static final int PEEK = 1;
    private static final int GLANCE = 2;
    private static final int WRITE = 3;
    private static final int PUT = 4;
    private static final int COUNT = 5;
    private static final int ADD = 6;
    private static final int TALLY = 7;
    private static final int LOG = 8;
    private static final int TURN = 9;
    private static final int REST = 10;
    private static final int SUM = 11;

    // A way from 1 on is the type of the same number; way 0 is the device's kind, and type 0 is ROOT.
    private static final int WAYS = 7;
    private static final int OWN_KIND = 0;
    private static final int ROOT = 0;
    private static final int UNIT = 1;
    private static final int READS = 2;
    private static final int WRITES = 3;
    private static final int BOTH = 4;
    private static final int COUNTS = 5;
    private static final int LOGGED = 6;
    private static final int PUMP = 7;
    private static final int VALVE = 8;
    private static final int METER = 9;
    private static final int FINE = 10;
    private static final int RELAY = 11;
    private static final int TWIN = 12;
    private static final int MUTE = 13;
    private static final int BOOST = 15;
    private static final int LEDGER = 17;
    private static final int TYPES = 18;
    private static final int FIRST_KIND = PUMP;
    private static final int KINDS = TYPES - FIRST_KIND;

    private final Heritage heritage = new Heritage();
    private final Trail trail = new Trail();
    private final Device[] devices = new Device[MOST_DEVICES];
    private final Device[] takers = new Device[MOST_DEVICES];
    private int deviceCount;
    private int linkCount;
    private int takerCount;
    private int pulse;
    private int latestStatus;

    public LineOfHeirs() {
    }

    public int device(int kind, int v) {
        if (kind < 0 || kind >= KINDS) {
            latestStatus = NO_SUCH_NUMBER;
            return NONE;
        }
        if (deviceCount >= devices.length) {
            latestStatus = NO_ROOM;
            return NONE;
        }
        latestStatus = DONE;
        int number = deviceCount;
        devices[number] = new Device(heritage, trail, kind, v);
        deviceCount++;
        return number;
    }

    public int call(int d, int act, int way, int x) {
        Device device = find(d);
        latestStatus = refusal(device, act, way);
        if (device == null || latestStatus != DONE) {
            return 0;
        }
        trail.clear();
        return device.answer(act, x);
    }

    public int every(int act, int way, int x) {
        latestStatus = refusalOfAll(act, way);
        if (latestStatus != DONE) {
            return 0;
        }
        trail.clear();
        int together = 0;
        for (int d = 0; d < deviceCount; d++) {
            Device device = find(d);
            if (device != null && refusal(device, act, way) == DONE) {
                together += device.answer(act, x);
            }
        }
        return together;
    }

    public int feed(int d, int bytes) {
        Device device = find(d);
        if (device == null) {
            latestStatus = NO_SUCH_NUMBER;
            return 0;
        }
        latestStatus = DONE;
        trail.clear();
        int together = 0;
        for (int shift = 24; shift >= 0; shift -= 8) {
            together += answerToByte(device, (bytes >>> shift) & 255, together);
        }
        return together;
    }

    public int link(int a, int b) {
        Device from = find(a);
        Device to = find(b);
        if (from == null || to == null) {
            latestStatus = NO_SUCH_NUMBER;
            return NONE;
        }
        if (linkCount >= MOST_LINKS) {
            latestStatus = NO_ROOM;
            return NONE;
        }
        latestStatus = DONE;
        from.addLink(new Link(to));
        to.linksTo++;
        int number = linkCount;
        linkCount++;
        return number;
    }

    public int pass(int d, int x) {
        Device first = find(d);
        if (first == null) {
            latestStatus = NO_SUCH_NUMBER;
            return 0;
        }
        latestStatus = DONE;
        trail.clear();
        pulse++;
        takerCount = 0;
        letTake(first, x);
        for (int i = 0; i < takerCount && i < takers.length; i++) {
            Device taker = takers[i];
            if (taker != null) {
                passOn(taker);
            }
        }
        return takerCount;
    }

    public int able(int d, int way) {
        Device device = find(d);
        if (device == null || !isWay(way)) {
            return NONE;
        }
        return device.bears(way) ? 1 : 0;
    }

    public int chain(int i) {
        return trail.keptAt(i);
    }

    public int ran() {
        return trail.begun;
    }

    public int state(int d, int what) {
        Device device = find(d);
        if (device == null || what < 0 || what >= Device.FACTS) {
            latestStatus = NO_SUCH_NUMBER;
            return 0;
        }
        latestStatus = DONE;
        return device.fact(what);
    }

    public int size(int what) {
        if (what == 0) {
            return deviceCount;
        }
        if (what == 1) {
            return linkCount;
        }
        if (what < READS || what > LOGGED) {
            return NONE;
        }
        return countBearers(what);
    }

    public int status() {
        return latestStatus;
    }

    private static boolean isAct(int act) {
        return act >= 0 && act < ACTS;
    }

    private static boolean isWay(int way) {
        return way >= 0 && way < WAYS;
    }

    private Device find(int d) {
        return d >= 0 && d < deviceCount && d < devices.length ? devices[d] : null;
    }

    private static int refusal(Device device, int act, int way) {
        if (device == null || !isAct(act) || !isWay(way)) {
            return NO_SUCH_NUMBER;
        }
        if (!device.bears(way)) {
            return WAY_NOT_BORNE;
        }
        return device.hasAct(way, act) ? DONE : ACT_NOT_OF_WAY;
    }

    private int refusalOfAll(int act, int way) {
        if (!isAct(act) || !isWay(way)) {
            return NO_SUCH_NUMBER;
        }
        // Each kind has acts of its own, so way 0 leaves devices out and never refuses as a whole.
        return way == OWN_KIND || heritage.hasAct(way, act) ? DONE : ACT_NOT_OF_WAY;
    }

    private static int answerToByte(Device device, int code, int soFar) {
        int act = code & 15;
        int way = (code >> 4) & 7;
        if (refusal(device, act, way) != DONE) {
            return 0;
        }
        return device.answer(act, code >= 128 ? 0 - soFar : soFar);
    }

    private void letTake(Device device, int x) {
        if (takerCount < takers.length) {
            takers[takerCount] = device;
            takerCount++;
            device.take(x, pulse);
        }
    }

    private void passOn(Device taker) {
        for (Link link = taker.firstLink; link != null; link = link.next) {
            if (link.to.latestPulse != pulse) {
                letTake(link.to, taker.tookAnswer);
            }
        }
    }

    private int countBearers(int way) {
        int bearers = 0;
        for (int d = 0; d < deviceCount; d++) {
            Device device = find(d);
            if (device != null && device.bears(way)) {
                bearers++;
            }
        }
        return bearers;
    }

    /** One link, in the row of the links that go from the same device. */
    private static final class Link {
        private final Device to;
        private Link next;

        private Link(Device to) {
            this.to = to;
        }
    }

    /** The bodies that ran in the latest call that was done. */
    private static final class Trail {
        private static final int MOST_KEPT = 64;

        private final int[] kept = new int[MOST_KEPT];
        private int begun;

        private void clear() {
            begun = 0;
        }

        private void begin(int body) {
            if (begun >= 0 && begun < kept.length) {
                kept[begun] = body;
            }
            begun++;
        }

        private int keptAt(int i) {
            return i >= 0 && i < begun && i < kept.length ? kept[i] : NONE;
        }
    }

    /** What the types have and inherit: the same for each house, and worked out once for it. */
    private static final class Heritage {
        private static final int NO_BODY = 0;

        // The parent of each class, from ROOT to LEDGER; a parent stands before its heirs.
        private static final int[] PARENTS = {
            NONE, ROOT,
            NONE, NONE, NONE, NONE, NONE,
            UNIT, UNIT, UNIT, PUMP, VALVE, METER, UNIT, METER, FINE, VALVE, RELAY
        };

        // The interfaces that each type names, a bit each; an interface stands before what is under it.
        private static final int[] NAMED = {
            0, 0,
            0, 0, 1 << READS | 1 << WRITES, 0, 1 << COUNTS,
            1 << READS, 1 << WRITES, 1 << COUNTS, 0, 1 << READS, 1 << BOTH, 1 << LOGGED,
            1 << LOGGED, 0, 1 << BOTH, 1 << LOGGED | 1 << BOTH
        };

        // The acts of each way from UNIT to LOGGED, a bit each; those of way 0 are each kind's own.
        private static final int[] WAY_ACTS = {
            0,
            1 << WRITE | 1 << COUNT | 1 << TURN | 1 << REST | 1 << SUM,
            1 << READ | 1 << PEEK | 1 << GLANCE,
            1 << WRITE | 1 << PUT | 1 << GLANCE,
            1 << READ | 1 << PEEK | 1 << GLANCE | 1 << WRITE | 1 << PUT,
            1 << COUNT | 1 << ADD | 1 << TALLY,
            1 << COUNT | 1 << ADD | 1 << TALLY | 1 << LOG
        };

        // The body that each type has itself of each act, in the order of the acts.
        private static final int[] BODIES = {
            0, 0, 0, 62, 0, 0, 0, 0, 0, 60, 61, 64,     // ROOT
            0, 0, 0, 0, 0, 70, 0, 0, 0, 0, 0, 0,        // UNIT
            0, 10, 11, 0, 0, 0, 0, 0, 0, 0, 0, 0,       // READS
            0, 0, 21, 0, 20, 0, 0, 0, 0, 0, 0, 0,       // WRITES
            0, 0, 30, 0, 0, 0, 0, 0, 0, 0, 0, 0,        // BOTH
            0, 0, 0, 0, 0, 0, 40, 41, 0, 0, 0, 0,       // COUNTS
            0, 0, 0, 0, 0, 0, 0, 50, 51, 0, 0, 0,       // LOGGED
            100, 0, 0, 0, 0, 0, 0, 0, 0, 101, 0, 0,     // PUMP
            0, 0, 0, 0, 111, 0, 0, 0, 0, 0, 110, 0,     // VALVE
            0, 0, 0, 0, 0, 0, 120, 0, 0, 0, 0, 0,       // METER
            130, 131, 0, 0, 0, 0, 0, 0, 0, 0, 0, 0,     // FINE
            140, 0, 141, 0, 0, 0, 0, 0, 0, 0, 142, 0,   // RELAY
            150, 0, 0, 0, 152, 0, 0, 0, 0, 151, 0, 0,   // TWIN
            0, 0, 0, 0, 0, 160, 0, 0, 161, 163, 0, 0,   // MUTE
            0, 0, 0, 0, 0, 0, 0, 0, 0, 0, 0, 0,         // GAUGE
            0, 0, 181, 0, 0, 0, 0, 0, 0, 180, 0, 0,     // BOOST
            190, 0, 0, 0, 0, 0, 0, 0, 0, 0, 0, 0,       // SIPHON
            0, 0, 202, 0, 0, 204, 0, 201, 0, 0, 0, 0    // LEDGER
        };

        private final int[] borne = new int[TYPES];
        private final int[] selected = new int[TYPES * ACTS];

        private Heritage() {
            for (int type = 0; type < TYPES; type++) {
                borne[type] = interfacesOf(type, borne);
                for (int act = 0; act < ACTS; act++) {
                    selected[type * ACTS + act] = select(type, act, borne);
                }
            }
        }

        private static boolean isType(int type) {
            return type >= 0 && type < TYPES;
        }

        private static boolean isInterface(int type) {
            return type >= READS && type <= LOGGED;
        }

        private static boolean holds(int bits, int number) {
            return (bits >> number & 1) == 1;
        }

        private static int parentOf(int type) {
            return isType(type) ? PARENTS[type] : NONE;
        }

        private static int bodyOf(int type, int act) {
            return isType(type) && isAct(act) ? BODIES[type * ACTS + act] : NO_BODY;
        }

        private static boolean bearsOne(int type, int one, int[] borne) {
            return isType(type) && holds(borne[type], one);
        }

        /** Needs the interfaces of all types before this one in place. */
        private static int interfacesOf(int type, int[] borne) {
            if (!isType(type)) {
                return 0;
            }
            int parent = parentOf(type);
            int bits = isInterface(type) ? 1 << type : 0;
            if (isType(parent)) {
                bits |= borne[parent];
            }
            for (int above = READS; above <= LOGGED; above++) {
                if (holds(NAMED[type], above)) {
                    bits |= borne[above];
                }
            }
            return bits;
        }

        /** For an interface, this is the body that 'super' behind its name means. */
        private static int select(int type, int act, int[] borne) {
            int body = bodyOfLine(type, act);
            return body != NO_BODY ? body : bodyOfInterfaces(type, act, borne);
        }

        private static int bodyOfLine(int type, int act) {
            int heir = type;
            for (int step = 0; step < TYPES && isType(heir); step++) {
                int body = bodyOf(heir, act);
                if (body != NO_BODY) {
                    return body;
                }
                heir = parentOf(heir);
            }
            return NO_BODY;
        }

        private static int bodyOfInterfaces(int type, int act, int[] borne) {
            for (int one = READS; one <= LOGGED; one++) {
                boolean has = bearsOne(type, one, borne) && bodyOf(one, act) != NO_BODY;
                if (has && !isOvertaken(one, type, act, borne)) {
                    return bodyOf(one, act);
                }
            }
            return NO_BODY;
        }

        /** Whether another interface that the type bears is under this one and has a body of the act. */
        private static boolean isOvertaken(int one, int type, int act, int[] borne) {
            for (int other = READS; other <= LOGGED; other++) {
                boolean under = other != one && bearsOne(other, one, borne);
                if (under && bearsOne(type, other, borne) && bodyOf(other, act) != NO_BODY) {
                    return true;
                }
            }
            return false;
        }

        private int selectedOf(int type, int act) {
            return isType(type) && isAct(act) ? selected[type * ACTS + act] : NO_BODY;
        }

        private boolean bears(int type, int way) {
            return isType(type) && isWay(way) && (way <= UNIT || holds(borne[type], way));
        }

        private int takingActOf(int type) {
            if (bears(type, WRITES)) {
                return PUT;
            }
            return bears(type, READS) ? PEEK : ADD;
        }

        private boolean hasAct(int way, int act) {
            return isWay(way) && isAct(act) && holds(WAY_ACTS[way], act);
        }

        private boolean kindHasAct(int type, int act) {
            for (int way = UNIT; way <= LOGGED; way++) {
                if (bears(type, way) && hasAct(way, act)) {
                    return true;
                }
            }
            return false;
        }
    }

    /** A device, and the bodies as they run on it. */
    private static final class Device {
        private static final int FACTS = 6;
        // The deepest line of bodies that the types allow is far shorter.
        private static final int DEEPEST = 40;

        private final Heritage heritage;
        private final Trail trail;
        private final int type;
        private final int takingAct;
        private int v;
        private int c;
        private Link firstLink;
        private Link lastLink;
        private int linksFrom;
        private int linksTo;
        private int taken;
        private int latestPulse;
        private int tookAnswer;

        private Device(Heritage heritage, Trail trail, int kind, int v) {
            this.heritage = heritage;
            this.trail = trail;
            this.type = FIRST_KIND + kind;
            this.takingAct = heritage.takingActOf(type);
            this.v = v;
        }

        private boolean bears(int way) {
            return heritage.bears(type, way);
        }

        private boolean hasAct(int way, int act) {
            return way == OWN_KIND ? heritage.kindHasAct(type, act) : heritage.hasAct(way, act);
        }

        private int fact(int what) {
            switch (what) {
                case 0: return type - FIRST_KIND;
                case 1: return v;
                case 2: return c;
                case 3: return linksFrom;
                case 4: return linksTo;
                case 5: return taken;
                default: return 0;
            }
        }

        private void addLink(Link link) {
            if (lastLink == null) {
                firstLink = link;
            } else {
                lastLink.next = link;
            }
            lastLink = link;
            linksFrom++;
        }

        private void take(int x, int pulse) {
            taken++;
            latestPulse = pulse;
            tookAnswer = act(takingAct, x, 0);
        }

        private int answer(int act, int x) {
            return act(act, x, 0);
        }

        /** The act of this device, whichever type's body asks for it. */
        private int act(int act, int x, int depth) {
            return run(heritage.selectedOf(type, act), x, depth);
        }

        /** 'super' in a body of a class. */
        private int parentAct(int ofClass, int act, int x, int depth) {
            return run(heritage.selectedOf(Heritage.parentOf(ofClass), act), x, depth);
        }

        /** 'super' behind the name of an interface. */
        private int interfaceAct(int ofInterface, int act, int x, int depth) {
            return run(heritage.selectedOf(ofInterface, act), x, depth);
        }

        private int run(int body, int x, int depth) {
            if (body == Heritage.NO_BODY || depth >= DEEPEST) {
                return 0;
            }
            trail.begin(body);
            // The numbers go up with the types: interfaces below 60, ROOT and UNIT below 100, then the kinds.
            if (body < 60) {
                return runOfInterface(body, x, depth + 1);
            }
            if (body < 100) {
                return runOfAncestor(body, x, depth + 1);
            }
            return body < 150 ? runOfEarlierKind(body, x, depth + 1) : runOfLaterKind(body, x, depth + 1);
        }

        private int runOfInterface(int body, int x, int depth) {
            switch (body) {
                // READS
                case 10: return act(READ, x, depth) + 1;
                case 11: return act(PEEK, x, depth) * 3 - act(READ, x + 1, depth);
                // WRITES
                case 20: return act(WRITE, x, depth) + act(WRITE, x + 1, depth);
                case 21: return act(PUT, x, depth) ^ 85;
                // BOTH
                case 30: return interfaceAct(READS, GLANCE, x, depth) + interfaceAct(WRITES, GLANCE, x + 1, depth);
                // COUNTS
                case 40: return act(COUNT, x, depth) + x;
                case 41: return act(ADD, x, depth) * 2 + act(ADD, 1, depth);
                // LOGGED; 52 is its own mark
                case 50: return interfaceAct(COUNTS, TALLY, x, depth) - act(LOG, x, depth);
                case 51: return run(52, x, depth) + act(COUNT, 2, depth);
                case 52: return act(COUNT, x, depth) * 5;
                default: return 0;
            }
        }

        private int runOfAncestor(int body, int x, int depth) {
            switch (body) {
                // ROOT; 63 is its own
                case 60:
                    v = v + x;
                    return v;
                case 61:
                    v = v - 3 * x;
                    return v;
                case 62:
                    v = v * 31 + x;
                    return v;
                case 63: return v ^ x;
                case 64: return act(TURN, x, depth) + act(REST, 1, depth) + run(63, x, depth);
                // UNIT
                case 70:
                    c = c + 1;
                    return c * 7 + x;
                default: return 0;
            }
        }

        private int runOfEarlierKind(int body, int x, int depth) {
            switch (body) {
                // PUMP
                case 100: return v + x;
                case 101: return parentAct(PUMP, TURN, x + 2, depth) + 1;
                // VALVE; 112 is its own
                case 110: return parentAct(VALVE, REST, x, depth) * 2 + run(112, x, depth);
                case 111: return interfaceAct(WRITES, PUT, x, depth) - 1;
                case 112: return c - x;
                // METER
                case 120: return act(COUNT, x, depth) * 3 + v;
                // FINE
                case 130: return parentAct(FINE, READ, x, depth) * 3;
                case 131: return parentAct(FINE, PEEK, x + 1, depth) + 5;
                // RELAY
                case 140: return v - x;
                case 141: return parentAct(RELAY, GLANCE, x, depth) - interfaceAct(READS, GLANCE, 1, depth);
                case 142: return parentAct(RELAY, REST, x + 1, depth) + 4;
                default: return 0;
            }
        }

        private int runOfLaterKind(int body, int x, int depth) {
            switch (body) {
                // TWIN
                case 150: return act(COUNT, x, depth) + v;
                case 151: return parentAct(TWIN, TURN, x, depth) ^ act(GLANCE, 0, depth);
                case 152: return interfaceAct(BOTH, PUT, x, depth) + 1;
                // MUTE; 162 is its own mark
                case 160: return x;
                case 161: return interfaceAct(LOGGED, LOG, x, depth) & 255;
                case 162: return x + 99;
                case 163: return run(162, x, depth) + parentAct(MUTE, TURN, 1, depth);
                // BOOST
                case 180: return parentAct(BOOST, TURN, x, depth) - 1;
                case 181: return parentAct(BOOST, GLANCE, x, depth) + act(PEEK, 2, depth);
                // SIPHON
                case 190: return act(REST, x, depth) * 2;
                // LEDGER; 200 is its own mark
                case 200: return c + x;
                case 201: return interfaceAct(LOGGED, TALLY, x, depth) + run(200, x, depth);
                case 202: return interfaceAct(BOTH, GLANCE, x, depth) + parentAct(LEDGER, GLANCE, x, depth);
                case 204: return parentAct(LEDGER, COUNT, x, depth) + 1;
                default: return 0;
            }
        }
    }
}

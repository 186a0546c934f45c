import java.util.ArrayList;
import java.util.HashSet;
import java.util.List;
import java.util.Set;

/**
 * The document told a second time, with Java's own interfaces and classes: Java itself chooses the bodies.
 * It is slow and free in its means; AgainstJavaTest holds the program against it.
 */
final class JavaHouse {
    static final String[] ACTS = {
        "read", "peek", "glance", "write", "put", "count", "add", "tally", "log", "turn", "rest", "sum"
    };

    interface Body {
        void began(int body);
    }

    interface Reads extends Body {
        int read(int x);

        default int peek(int x) {
            began(10);
            return read(x) + 1;
        }

        default int glance(int x) {
            began(11);
            return peek(x) * 3 - read(x + 1);
        }
    }

    interface Writes extends Body {
        int write(int x);

        default int put(int x) {
            began(20);
            return write(x) + write(x + 1);
        }

        default int glance(int x) {
            began(21);
            return put(x) ^ 85;
        }
    }

    interface Both extends Reads, Writes {
        @Override
        default int glance(int x) {
            began(30);
            return Reads.super.glance(x) + Writes.super.glance(x + 1);
        }
    }

    interface Counts extends Body {
        int count(int x);

        default int add(int x) {
            began(40);
            return count(x) + x;
        }

        default int tally(int x) {
            began(41);
            return add(x) * 2 + add(1);
        }
    }

    interface Logged extends Counts {
        @Override
        default int tally(int x) {
            began(50);
            return Counts.super.tally(x) - log(x);
        }

        default int log(int x) {
            began(51);
            return mark(x) + count(2);
        }

        private int mark(int x) {
            began(52);
            return count(x) * 5;
        }
    }

    abstract static class Root implements Body {
        int v;
        int c;
        final List<Integer> chain;
        int taken = 0;
        final List<Root> links = new ArrayList<>();

        Root(int v, List<Integer> chain) {
            this.v = v;
            this.chain = chain;
        }

        @Override
        public void began(int body) {
            chain.add(body);
        }

        public int turn(int x) {
            began(60);
            v = v + x;
            return v;
        }

        public int rest(int x) {
            began(61);
            v = v - 3 * x;
            return v;
        }

        public int write(int x) {
            began(62);
            v = v * 31 + x;
            return v;
        }

        private int own(int x) {
            began(63);
            return v ^ x;
        }

        public int sum(int x) {
            began(64);
            return turn(x) + rest(1) + own(x);
        }
    }

    abstract static class Unit extends Root {
        Unit(int v, List<Integer> chain) {
            super(v, chain);
        }

        public int count(int x) {
            began(70);
            c = c + 1;
            return c * 7 + x;
        }
    }

    static class Pump extends Unit implements Reads {
        Pump(int v, List<Integer> chain) {
            super(v, chain);
        }

        @Override
        public int read(int x) {
            began(100);
            return v + x;
        }

        @Override
        public int turn(int x) {
            began(101);
            return super.turn(x + 2) + 1;
        }
    }

    static class Valve extends Unit implements Writes {
        Valve(int v, List<Integer> chain) {
            super(v, chain);
        }

        @Override
        public int rest(int x) {
            began(110);
            return super.rest(x) * 2 + own(x);
        }

        @Override
        public int put(int x) {
            began(111);
            return Writes.super.put(x) - 1;
        }

        private int own(int x) {
            began(112);
            return c - x;
        }
    }

    static class Meter extends Unit implements Counts {
        Meter(int v, List<Integer> chain) {
            super(v, chain);
        }

        @Override
        public int add(int x) {
            began(120);
            return count(x) * 3 + v;
        }
    }

    static class Fine extends Pump {
        Fine(int v, List<Integer> chain) {
            super(v, chain);
        }

        @Override
        public int read(int x) {
            began(130);
            return super.read(x) * 3;
        }

        @Override
        public int peek(int x) {
            began(131);
            return super.peek(x + 1) + 5;
        }
    }

    static class Relay extends Valve implements Reads {
        Relay(int v, List<Integer> chain) {
            super(v, chain);
        }

        @Override
        public int read(int x) {
            began(140);
            return v - x;
        }

        @Override
        public int glance(int x) {
            began(141);
            return super.glance(x) - Reads.super.glance(1);
        }

        @Override
        public int rest(int x) {
            began(142);
            return super.rest(x + 1) + 4;
        }
    }

    static class Twin extends Meter implements Both {
        Twin(int v, List<Integer> chain) {
            super(v, chain);
        }

        @Override
        public int read(int x) {
            began(150);
            return count(x) + v;
        }

        @Override
        public int turn(int x) {
            began(151);
            return super.turn(x) ^ glance(0);
        }

        @Override
        public int put(int x) {
            began(152);
            return Both.super.put(x) + 1;
        }
    }

    static class Mute extends Unit implements Logged {
        Mute(int v, List<Integer> chain) {
            super(v, chain);
        }

        @Override
        public int count(int x) {
            began(160);
            return x;
        }

        @Override
        public int log(int x) {
            began(161);
            return Logged.super.log(x) & 255;
        }

        private int mark(int x) {
            began(162);
            return x + 99;
        }

        @Override
        public int turn(int x) {
            began(163);
            return mark(x) + super.turn(1);
        }
    }

    static class Gauge extends Meter implements Logged {
        Gauge(int v, List<Integer> chain) {
            super(v, chain);
        }
    }

    static class Boost extends Fine {
        Boost(int v, List<Integer> chain) {
            super(v, chain);
        }

        @Override
        public int turn(int x) {
            began(180);
            return super.turn(x) - 1;
        }

        @Override
        public int glance(int x) {
            began(181);
            return super.glance(x) + peek(2);
        }
    }

    static class Siphon extends Valve implements Both {
        Siphon(int v, List<Integer> chain) {
            super(v, chain);
        }

        @Override
        public int read(int x) {
            began(190);
            return rest(x) * 2;
        }
    }

    static class Ledger extends Relay implements Logged, Both {
        Ledger(int v, List<Integer> chain) {
            super(v, chain);
        }

        private int mark(int x) {
            began(200);
            return c + x;
        }

        @Override
        public int tally(int x) {
            began(201);
            return Logged.super.tally(x) + mark(x);
        }

        @Override
        public int glance(int x) {
            began(202);
            return Both.super.glance(x) + super.glance(x);
        }

        @Override
        public int count(int x) {
            began(204);
            return super.count(x) + 1;
        }
    }

    private final List<Root> devices = new ArrayList<>();
    private final List<Integer> kinds = new ArrayList<>();
    private final List<Integer> running = new ArrayList<>();
    private List<Integer> latestChain = new ArrayList<>();
    private int links = 0;
    private int status = 0;

    private Root make(int kind, int v) {
        switch (kind) {
            case 0: return new Pump(v, running);
            case 1: return new Valve(v, running);
            case 2: return new Meter(v, running);
            case 3: return new Fine(v, running);
            case 4: return new Relay(v, running);
            case 5: return new Twin(v, running);
            case 6: return new Mute(v, running);
            case 7: return new Gauge(v, running);
            case 8: return new Boost(v, running);
            case 9: return new Siphon(v, running);
            case 10: return new Ledger(v, running);
            default: return null;
        }
    }

    private static Class<?> typeOfWay(int way) {
        Class<?>[] types = {Root.class, Unit.class, Reads.class, Writes.class, Both.class, Counts.class, Logged.class};
        return types[way];
    }

    /** Java's own list of what a type can be asked for: its public methods, and those of what it inherits. */
    private static boolean javaHasAct(Class<?> type, int act) {
        try {
            type.getMethod(ACTS[act], int.class);
            return true;
        } catch (NoSuchMethodException none) {
            return false;
        }
    }

    private static int ask(Root device, int act, int x) {
        try {
            java.lang.reflect.Method method = device.getClass().getMethod(ACTS[act], int.class);
            method.setAccessible(true);
            return (Integer) method.invoke(device, x);
        } catch (ReflectiveOperationException fault) {
            throw new IllegalStateException(fault);
        }
    }

    private static boolean is(int number, int below) {
        return number >= 0 && number < below;
    }

    private int ends(int newStatus, int answer) {
        status = newStatus;
        return answer;
    }

    private int done(int answer) {
        status = 0;
        latestChain = new ArrayList<>(running);
        return answer;
    }

    private int refusal(int d, int act, int way) {
        if (!is(d, devices.size()) || !is(act, 12) || !is(way, 7)) {
            return 1;
        }
        Root device = devices.get(d);
        if (!typeOfWay(way).isInstance(device)) {
            return 2;
        }
        return javaHasAct(way == 0 ? device.getClass() : typeOfWay(way), act) ? 0 : 3;
    }

    int device(int kind, int v) {
        if (!is(kind, 11)) {
            return ends(1, -1);
        }
        if (devices.size() == 300) {
            return ends(5, -1);
        }
        devices.add(make(kind, v));
        kinds.add(kind);
        return ends(0, devices.size() - 1);
    }

    int call(int d, int act, int way, int x) {
        int refusal = refusal(d, act, way);
        if (refusal != 0) {
            return ends(refusal, 0);
        }
        running.clear();
        return done(ask(devices.get(d), act, x));
    }

    int every(int act, int way, int x) {
        if (!is(act, 12) || !is(way, 7)) {
            return ends(1, 0);
        }
        if (way != 0 && !javaHasAct(typeOfWay(way), act)) {
            return ends(3, 0);
        }
        running.clear();
        int together = 0;
        for (int d = 0; d < devices.size(); d++) {
            if (refusal(d, act, way) == 0) {
                together += ask(devices.get(d), act, x);
            }
        }
        return done(together);
    }

    int feed(int d, int bytes) {
        if (!is(d, devices.size())) {
            return ends(1, 0);
        }
        running.clear();
        int together = 0;
        for (int i = 0; i < 4; i++) {
            int code = bytes >>> 24 - 8 * i;
            int act = Math.floorMod(code, 16);
            int way = Math.floorMod(Math.floorDiv(code, 16), 8);
            boolean less = Math.floorMod(Math.floorDiv(code, 128), 2) == 1;
            if (refusal(d, act, way) == 0) {
                together = together + ask(devices.get(d), act, less ? 0 - together : together);
            }
        }
        return done(together);
    }

    int link(int a, int b) {
        if (!is(a, devices.size()) || !is(b, devices.size())) {
            return ends(1, -1);
        }
        if (links == 400) {
            return ends(5, -1);
        }
        devices.get(a).links.add(devices.get(b));
        return ends(0, links++);
    }

    private int take(Root device, int x) {
        device.taken++;
        if (device instanceof Writes) {
            return ((Writes) device).put(x);
        }
        return device instanceof Reads ? ((Reads) device).peek(x) : ((Counts) device).add(x);
    }

    int pass(int d, int x) {
        if (!is(d, devices.size())) {
            return ends(1, 0);
        }
        running.clear();
        List<Root> order = new ArrayList<>();
        List<Integer> answers = new ArrayList<>();
        Set<Root> took = new HashSet<>();
        order.add(devices.get(d));
        took.add(devices.get(d));
        answers.add(take(devices.get(d), x));
        for (int i = 0; i < order.size(); i++) {
            for (Root to : order.get(i).links) {
                if (took.add(to)) {
                    order.add(to);
                    answers.add(take(to, answers.get(i)));
                }
            }
        }
        return done(order.size());
    }

    int able(int d, int way) {
        if (!is(d, devices.size()) || !is(way, 7)) {
            return -1;
        }
        return typeOfWay(way).isInstance(devices.get(d)) ? 1 : 0;
    }

    int chain(int i) {
        return is(i, Math.min(64, latestChain.size())) ? latestChain.get(i) : -1;
    }

    int ran() {
        return latestChain.size();
    }

    int state(int d, int what) {
        if (!is(d, devices.size()) || !is(what, 6)) {
            return ends(1, 0);
        }
        Root device = devices.get(d);
        int comes = 0;
        for (Root from : devices) {
            for (Root to : from.links) {
                comes += to == device ? 1 : 0;
            }
        }
        int[] facts = {kinds.get(d), device.v, device.c, device.links.size(), comes, device.taken};
        return ends(0, facts[what]);
    }

    int size(int what) {
        if (!is(what, 7)) {
            return -1;
        }
        if (what < 2) {
            return what == 0 ? devices.size() : links;
        }
        int bearers = 0;
        for (Root device : devices) {
            bearers += typeOfWay(what).isInstance(device) ? 1 : 0;
        }
        return bearers;
    }

    int status() {
        return status;
    }
}

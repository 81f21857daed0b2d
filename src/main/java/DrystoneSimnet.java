import java.util.Arrays;

/**
 * A simulator of networks of hosts, bridges and routers, with proofs of where headers lead in them.
 *
 * All rows are made in the constructors and used again, since what the calls of a run make is never given back.
 */
public final class DrystoneSimnet {
    public static final int NONE = -1;
    public static final int HOST = 0, BRIDGE = 1, ROUTER = 2;
    public static final int TRUNK = 4;
    public static final int FLYING = 0, DELIVERED = 1, NO_ROUTE = 2, NO_ONE = 3, FILTERED = 4, OLD = 5, POOL = 6, WRONG = 7, LOST = 8;

    private static final int MAX_BOXES = 10;
    private static final int MAX_CABLES = 16;
    private static final int PORTS_PER_BOX = 4;
    private static final int ROUTER_PORTS = 3;
    private static final int PORTS = MAX_BOXES * PORTS_PER_BOX;
    private static final int BITS = 6;
    private static final int ADDRESSES = 1 << BITS;
    private static final int SERVICES = 4;
    private static final int MAX_TOLD = 6;
    private static final int MAX_RULES = 8;
    private static final int MAX_POOL = 4;
    private static final int MAX_PACKETS = 60;
    private static final int MAX_FRAMES = 64;
    private static final int MAX_PASSED = 8;
    private static final int MAX_TICKS = 30;
    private static final int BRIDGE_MEMORY = 20;
    private static final int ROUTER_MEMORY = 30;
    private static final int FARTHEST = 7;
    private static final int SETTLING_TICKS = 30;
    private static final int PREFIXES = 2 * ADDRESSES - 2;
    /** What a bridge does not let in, or out: neither a net nor a tag. */
    private static final int BARRED = -2;
    /** A hop is its own port times this, and the next port; and so is the tail of a learnt entry. */
    private static final int HOP = 100;
    /** A learnt entry is its distance times this, and its hop: thus the least entry is the one to be taken. */
    private static final int FAR = 10000;

    private final Wiring wiring;
    private final Sight sight;
    private final Addresses addresses;
    private final Router[] routers;
    private final Routing routing;
    private final Traffic traffic;
    private final Proofs proofs;

    public DrystoneSimnet() {
        wiring = new Wiring();
        sight = new Sight(wiring);
        addresses = new Addresses();
        routers = new Router[MAX_BOXES];
        for (int box = 0; box < MAX_BOXES; box++) {
            routers[box] = new Router();
        }
        routing = new Routing(wiring, sight, addresses, routers);
        traffic = new Traffic(wiring, sight, addresses, routers, routing);
        proofs = new Proofs(wiring, sight, addresses, routers, routing);
    }

    // ---- boxes and cables

    public int box(int kind) throws IllegalArgumentException, IllegalStateException {
        needArgument(kind >= HOST && kind <= ROUTER);
        int number = wiring.addBox(kind);
        needRoom(number != NONE);
        return number;
    }

    public int cable(int port, int other) throws IndexOutOfBoundsException, IllegalArgumentException, IllegalStateException {
        needPort(port);
        needPort(other);
        needArgument(boxOf(port) != boxOf(other));
        int number = wiring.layCable(port, other);
        needRoom(number != NONE);
        takeNewWiring();
        return number;
    }

    public boolean turn(int cable) throws IndexOutOfBoundsException {
        needCable(cable);
        wiring.broken[cable] = !wiring.broken[cable];
        takeNewWiring();
        return wiring.broken[cable];
    }

    public boolean isBlocked(int cable) throws IndexOutOfBoundsException {
        needCable(cable);
        return wiring.blocked[cable];
    }

    public int net(int port, int net) throws IndexOutOfBoundsException, IllegalArgumentException {
        needPort(port);
        needArgument(net >= 0 && net <= TRUNK && wiring.kindOf(boxOf(port)) == BRIDGE);
        int before = sight.nets[port];
        sight.nets[port] = net;
        takeNewSight();
        return before;
    }

    public boolean sees(int port, int other) throws IndexOutOfBoundsException, IllegalArgumentException {
        needPort(port);
        needPort(other);
        needArgument(wiring.isStation(port) && wiring.isStation(other) && port != other);
        sight.refresh();
        return sight.reaches(port, other);
    }

    // ---- addresses, routes, rules

    public int address(int port, int address, int length) throws IndexOutOfBoundsException, IllegalArgumentException {
        needPort(port);
        needArgument(wiring.isStation(port) && isAddress(address) && length >= 1 && length <= BITS);
        int before = addresses.give(port, address, length);
        routing.disturb();
        return before;
    }

    public int gateway(int host, int address) throws IndexOutOfBoundsException, IllegalArgumentException {
        needBox(host);
        needArgument(wiring.kindOf(host) == HOST && (isAddress(address) || address == NONE));
        int before = addresses.gateways[host];
        addresses.gateways[host] = address;
        return before;
    }

    public int route(int router, int address, int length, int next) throws IndexOutOfBoundsException, IllegalArgumentException, IllegalStateException {
        needBox(router);
        needArgument(wiring.kindOf(router) == ROUTER && isPrefix(address, length) && isAddress(next));
        int many = routers[router].tellRoute(address, length, next);
        needRoom(many != NONE);
        return many;
    }

    public int rule(int router, int source, int length, int dest, int far, int service, boolean passes) throws IndexOutOfBoundsException, IllegalArgumentException, IllegalStateException {
        needBox(router);
        needArgument(wiring.kindOf(router) == ROUTER && isPrefix(source, length) && isPrefix(dest, far));
        needArgument(isService(service) || service == NONE);
        int many = routers[router].tellRule(source, length, dest, far, service, passes);
        needRoom(many != NONE);
        return many;
    }

    public boolean watch(int router, boolean does) throws IndexOutOfBoundsException, IllegalArgumentException {
        needBox(router);
        needArgument(wiring.kindOf(router) == ROUTER);
        return routers[router].letWatch(does, traffic.now);
    }

    public int pool(int port, int from, int many) throws IndexOutOfBoundsException, IllegalArgumentException {
        needPort(port);
        needArgument(wiring.kindOf(boxOf(port)) == ROUTER && isAddress(from));
        needArgument(many >= 0 && many <= MAX_POOL && from + many <= ADDRESSES);
        return routers[boxOf(port)].pools[ownNumber(port)].replaceBy(from, many);
    }

    // ---- packets, ticks

    public int send(int host, int dest, int service) throws IndexOutOfBoundsException, IllegalArgumentException, IllegalStateException {
        needBox(host);
        needArgument(wiring.kindOf(host) == HOST && isAddress(dest) && isService(service));
        int packet = traffic.launch(host, dest, service);
        needRoom(packet != NONE);
        return packet;
    }

    public int tick(int ticks) throws IllegalArgumentException {
        needArgument(ticks >= 1 && ticks <= MAX_TICKS);
        for (int i = 0; i < ticks; i++) {
            traffic.passTick();
        }
        return traffic.now;
    }

    public int fate(int packet) throws IndexOutOfBoundsException {
        needPacket(packet);
        return traffic.fates[packet];
    }

    public int where(int packet) throws IndexOutOfBoundsException {
        needPacket(packet);
        return traffic.places[packet];
    }

    public int source(int packet) throws IndexOutOfBoundsException {
        needPacket(packet);
        return traffic.sources[packet];
    }

    public int frames() {
        return traffic.onCables;
    }

    // ---- tables

    public int noted(int bridge, int port) throws IndexOutOfBoundsException, IllegalArgumentException {
        needBox(bridge);
        needPort(port);
        needArgument(wiring.kindOf(bridge) == BRIDGE && wiring.isStation(port));
        return traffic.notedPort(bridge, port);
    }

    public int learnt(int router, int address, int length) throws IndexOutOfBoundsException, IllegalArgumentException {
        needBox(router);
        needArgument(wiring.kindOf(router) == ROUTER && isAddress(address) && length >= 1 && length <= BITS);
        return routing.learntOf(router, prefixNumber(address, length));
    }

    // ---- proofs, in the settled net

    public int reach(int host, int to) throws IndexOutOfBoundsException, IllegalArgumentException {
        needBox(host);
        needBox(to);
        needArgument(wiring.kindOf(host) == HOST);
        routing.settle();
        return proofs.countBySets(host, to);
    }

    public int reachAnew(int host, int to) throws IndexOutOfBoundsException, IllegalArgumentException {
        needBox(host);
        needBox(to);
        needArgument(wiring.kindOf(host) == HOST);
        routing.settle();
        return proofs.countByPackets(host, to);
    }

    public int proved(int host, int dest, int service) throws IndexOutOfBoundsException, IllegalArgumentException {
        needBox(host);
        needArgument(wiring.kindOf(host) == HOST && isAddress(dest) && isService(service));
        routing.settle();
        return proofs.walk(host, dest, service);
    }

    public int way(int host, int dest, int service, int place) throws IndexOutOfBoundsException, IllegalArgumentException {
        needBox(host);
        if (place < 0) {
            throw new IndexOutOfBoundsException("place is below 0");
        }
        needArgument(wiring.kindOf(host) == HOST && isAddress(dest) && isService(service));
        routing.settle();
        return proofs.routerPassed(host, dest, service, place);
    }

    // ---- what calls need, and what they disturb

    private void needBox(int box) {
        if (!wiring.hasBox(box)) {
            throw new IndexOutOfBoundsException("no such box");
        }
    }

    private void needPort(int port) {
        if (!wiring.hasPort(port)) {
            throw new IndexOutOfBoundsException("no such port");
        }
    }

    private void needCable(int cable) {
        if (cable < 0 || cable >= wiring.cables) {
            throw new IndexOutOfBoundsException("no such cable");
        }
    }

    private void needPacket(int packet) {
        if (packet < 0 || packet >= traffic.packets) {
            throw new IndexOutOfBoundsException("no such packet");
        }
    }

    private static void needArgument(boolean fits) {
        if (!fits) {
            throw new IllegalArgumentException("out of range, or of a kind that is not meant");
        }
    }

    private static void needRoom(boolean given) {
        if (!given) {
            throw new IllegalStateException("there is no room for one more");
        }
    }

    private void takeNewWiring() {
        wiring.growTree();
        takeNewSight();
    }

    private void takeNewSight() {
        sight.forget();
        routing.disturb();
    }

    // ---- numbers of ports, addresses, prefixes

    private static int boxOf(int port) {
        return port / PORTS_PER_BOX;
    }

    private static int ownNumber(int port) {
        return port % PORTS_PER_BOX;
    }

    private static int firstPortOf(int box) {
        return PORTS_PER_BOX * box;
    }

    private static boolean isAddress(int address) {
        return address >= 0 && address < ADDRESSES;
    }

    private static boolean isPrefix(int address, int length) {
        return isAddress(address) && length >= 0 && length <= BITS;
    }

    private static boolean isService(int service) {
        return service >= 0 && service < SERVICES;
    }

    private static boolean inPrefix(int address, int prefix, int length) {
        return (address ^ prefix) >> (BITS - length) == 0;
    }

    /** Prefixes with lengths from 1 are numbered by length, then by their first bits. */
    private static int prefixNumber(int address, int length) {
        return (1 << length) - 2 + (address >> (BITS - length));
    }

    /** The addresses in a prefix, one bit each. */
    private static long membersOf(int prefix, int length) {
        int many = 1 << (BITS - length);
        return many == ADDRESSES ? -1L : ((1L << many) - 1) << (prefix & -many);
    }

    /** Boxes, the cables between their ports, and the tree of the bridges. */
    private static final class Wiring {
        private int boxes;
        private int cables;
        private final int[] kinds;
        private final int[] cableAt;
        /** The port at the other end of the open cable of a port, NONE without one. */
        private final int[] across;
        private final int[] oneEnd;
        private final int[] otherEnd;
        private final boolean[] broken;
        private final boolean[] blocked;
        private final int[] distance;
        private final int[] towardsRoot;

        Wiring() {
            kinds = new int[MAX_BOXES];
            cableAt = new int[PORTS];
            across = new int[PORTS];
            oneEnd = new int[MAX_CABLES];
            otherEnd = new int[MAX_CABLES];
            broken = new boolean[MAX_CABLES];
            blocked = new boolean[MAX_CABLES];
            distance = new int[MAX_BOXES];
            towardsRoot = new int[MAX_BOXES];
            Arrays.fill(cableAt, NONE);
            Arrays.fill(across, NONE);
        }

        boolean hasBox(int box) {
            return box >= 0 && box < boxes;
        }

        int kindOf(int box) {
            return box >= 0 && box < boxes ? kinds[box] : NONE;
        }

        boolean hasPort(int port) {
            if (port < 0) {
                return false;
            }
            int kind = kindOf(boxOf(port));
            int many = kind == HOST ? 1 : kind == ROUTER ? ROUTER_PORTS : kind == BRIDGE ? PORTS_PER_BOX : 0;
            return ownNumber(port) < many;
        }

        boolean isStation(int port) {
            return hasPort(port) && kindOf(boxOf(port)) != BRIDGE;
        }

        int addBox(int kind) {
            if (boxes >= MAX_BOXES) {
                return NONE;
            }
            kinds[boxes] = kind;
            boxes++;
            return boxes - 1;
        }

        int layCable(int port, int other) {
            if (cables >= MAX_CABLES || cableAt[port] != NONE || cableAt[other] != NONE) {
                return NONE;
            }
            int cable = cables;
            oneEnd[cable] = port;
            otherEnd[cable] = other;
            cableAt[port] = cable;
            cableAt[other] = cable;
            cables++;
            return cable;
        }

        void growTree() {
            measureDistances();
            Arrays.fill(towardsRoot, NONE);
            for (int cable = 0; cable < cables; cable++) {
                if (isWholeLink(cable)) {
                    offerTowardsRoot(boxOf(oneEnd[cable]), boxOf(otherEnd[cable]), cable);
                    offerTowardsRoot(boxOf(otherEnd[cable]), boxOf(oneEnd[cable]), cable);
                }
            }
            for (int cable = 0; cable < cables; cable++) {
                int one = oneEnd[cable];
                int other = otherEnd[cable];
                blocked[cable] = isWholeLink(cable) && towardsRoot[boxOf(one)] != cable && towardsRoot[boxOf(other)] != cable;
                boolean open = !broken[cable] && !blocked[cable];
                across[one] = open ? other : NONE;
                across[other] = open ? one : NONE;
            }
        }

        private boolean isWholeLink(int cable) {
            return !broken[cable] && kinds[boxOf(oneEnd[cable])] == BRIDGE && kinds[boxOf(otherEnd[cable])] == BRIDGE;
        }

        /** The lowest bridge that no root has got hold of yet is the root of those that hang together with it. */
        private void measureDistances() {
            Arrays.fill(distance, NONE);
            for (int box = 0; box < boxes; box++) {
                if (kinds[box] == BRIDGE && distance[box] == NONE) {
                    distance[box] = 0;
                    spreadDistances();
                }
            }
        }

        private void spreadDistances() {
            for (int far = 0; far < MAX_BOXES; far++) {
                for (int cable = 0; cable < cables; cable++) {
                    if (isWholeLink(cable)) {
                        spreadOver(boxOf(oneEnd[cable]), boxOf(otherEnd[cable]), far);
                        spreadOver(boxOf(otherEnd[cable]), boxOf(oneEnd[cable]), far);
                    }
                }
            }
        }

        private void spreadOver(int bridge, int next, int far) {
            if (distance[bridge] == far && distance[next] == NONE) {
                distance[next] = far + 1;
            }
        }

        /** Cables are offered by rising numbers, so that of those to one bridge the first stays. */
        private void offerTowardsRoot(int bridge, int nearer, int cable) {
            if (distance[nearer] != distance[bridge] - 1) {
                return;
            }
            int before = towardsRoot[bridge];
            if (before == NONE || nearer < neighbourBy(before, bridge)) {
                towardsRoot[bridge] = cable;
            }
        }

        private int neighbourBy(int cable, int box) {
            int one = boxOf(oneEnd[cable]);
            return one == box ? boxOf(otherEnd[cable]) : one;
        }
    }

    /** The nets of bridges, and what ports of hosts and routers see through them. */
    private static final class Sight {
        private final Wiring wiring;
        private final int[] nets;
        private final long[] seen;
        private boolean fresh;
        private final int[] floodedPorts;
        private final int[] floodedTags;

        Sight(Wiring wiring) {
            this.wiring = wiring;
            nets = new int[PORTS];
            seen = new long[PORTS];
            floodedPorts = new int[MAX_BOXES];
            floodedTags = new int[MAX_BOXES];
        }

        void forget() {
            fresh = false;
        }

        void refresh() {
            if (fresh) {
                return;
            }
            for (int port = 0; port < PORTS; port++) {
                seen[port] = wiring.isStation(port) ? floodFrom(port) : 0L;
            }
            fresh = true;
        }

        boolean reaches(int port, int other) {
            return (seen[port] >> other & 1L) != 0;
        }

        /** The net that a frame is in when it has come into a bridge, BARRED if it is lost there. */
        int netInside(int port, int tag) {
            int net = nets[port];
            if (net == TRUNK) {
                return tag == NONE ? 0 : tag;
            }
            return tag == NONE || tag == net ? net : BARRED;
        }

        /** The tag with which a frame in a net leaves by a port, BARRED if it cannot. */
        int tagOutside(int port, int net) {
            if (nets[port] == TRUNK) {
                return net;
            }
            return nets[port] == net ? NONE : BARRED;
        }

        /** Open cables between bridges are a tree, hence a flood comes into each bridge at most once. */
        private long floodFrom(int port) {
            int start = wiring.across[port];
            if (start == NONE) {
                return 0L;
            }
            if (wiring.isStation(start)) {
                return 1L << start;
            }
            floodedPorts[0] = start;
            floodedTags[0] = NONE;
            long found = 0L;
            int count = 1;
            for (int i = 0; i < count && i < MAX_BOXES; i++) {
                int net = netInside(floodedPorts[i], floodedTags[i]);
                int first = firstPortOf(boxOf(floodedPorts[i]));
                for (int out = first; out < first + PORTS_PER_BOX; out++) {
                    int tag = net == BARRED || out == floodedPorts[i] ? BARRED : tagOutside(out, net);
                    int next = tag == BARRED ? NONE : wiring.across[out];
                    if (next != NONE && wiring.isStation(next)) {
                        found |= tag == NONE ? 1L << next : 0L;
                    } else if (next != NONE && count < MAX_BOXES) {
                        floodedPorts[count] = next;
                        floodedTags[count] = tag;
                        count++;
                    }
                }
            }
            return found;
        }
    }

    /** The addresses of ports, and the gateways of hosts. */
    private static final class Addresses {
        private final int[] given;
        private final int[] lengths;
        /** The numbers of the connected prefixes, NONE at a port without an address. */
        private final int[] prefixes;
        private final int[] gateways;

        Addresses() {
            given = new int[PORTS];
            lengths = new int[PORTS];
            prefixes = new int[PORTS];
            gateways = new int[MAX_BOXES];
            Arrays.fill(given, NONE);
            Arrays.fill(prefixes, NONE);
            Arrays.fill(gateways, NONE);
        }

        int give(int port, int address, int length) {
            int before = given[port];
            given[port] = address;
            lengths[port] = length;
            prefixes[port] = prefixNumber(address, length);
            return before;
        }

        boolean covers(int port, int address) {
            return given[port] != NONE && (address ^ given[port]) >> (BITS - lengths[port]) == 0;
        }

        boolean isOf(int box, int address) {
            int first = firstPortOf(box);
            for (int port = first; port < first + PORTS_PER_BOX; port++) {
                if (given[port] == address) {
                    return true;
                }
            }
            return false;
        }

        int lowestAt(long ports, int address) {
            for (int port = 0; port < PORTS; port++) {
                if (given[port] == address && (ports >> port & 1L) != 0) {
                    return port;
                }
            }
            return NONE;
        }

        /** The lowest port of a router in whose prefix an address is. */
        int lowestCovering(int router, int address) {
            int first = firstPortOf(router);
            for (int port = first; port < first + ROUTER_PORTS; port++) {
                if (covers(port, address)) {
                    return port;
                }
            }
            return NONE;
        }

        /** Whether a prefix is a router's own. */
        boolean connects(int router, int prefix) {
            int first = firstPortOf(router);
            for (int port = first; port < first + ROUTER_PORTS; port++) {
                if (prefixes[port] == prefix) {
                    return true;
                }
            }
            return false;
        }

        /** The port of a router's connected route to an address. */
        int connectedFor(int router, int address) {
            int first = firstPortOf(router);
            int best = NONE;
            for (int port = first; port < first + ROUTER_PORTS; port++) {
                if (covers(port, address) && (best == NONE || lengths[port] > lengths[best])) {
                    best = port;
                }
            }
            return best;
        }
    }

    /** What a router was told: routes, rules, whether it watches, and the pools of its ports. */
    private static final class Router {
        private int told;
        private final int[] toldPrefix;
        private final int[] toldLength;
        private final int[] toldNext;
        private int rules;
        private final int[] ruleSource;
        private final int[] ruleLength;
        private final int[] ruleDest;
        private final int[] ruleFar;
        private final int[] ruleService;
        private final boolean[] rulePasses;
        private boolean watches;
        /** What was noted up to this tick is forgotten. */
        private int forgottenUpTo;
        private final Pool[] pools;

        Router() {
            toldPrefix = new int[MAX_TOLD];
            toldLength = new int[MAX_TOLD];
            toldNext = new int[MAX_TOLD];
            ruleSource = new int[MAX_RULES];
            ruleLength = new int[MAX_RULES];
            ruleDest = new int[MAX_RULES];
            ruleFar = new int[MAX_RULES];
            ruleService = new int[MAX_RULES];
            rulePasses = new boolean[MAX_RULES];
            pools = new Pool[ROUTER_PORTS];
            for (int port = 0; port < ROUTER_PORTS; port++) {
                pools[port] = new Pool();
            }
        }

        int tellRoute(int address, int length, int next) {
            if (told >= MAX_TOLD) {
                return NONE;
            }
            toldPrefix[told] = address;
            toldLength[told] = length;
            toldNext[told] = next;
            told++;
            return told;
        }

        int tellRule(int source, int length, int dest, int far, int service, boolean passes) {
            if (rules >= MAX_RULES) {
                return NONE;
            }
            ruleSource[rules] = source;
            ruleLength[rules] = length;
            ruleDest[rules] = dest;
            ruleFar[rules] = far;
            ruleService[rules] = service;
            rulePasses[rules] = passes;
            rules++;
            return rules;
        }

        boolean letWatch(boolean does, int now) {
            boolean before = watches;
            watches = does;
            forgottenUpTo = now;
            return before;
        }

        /** The told route to an address, if it is longer than another one that goes first. */
        int toldFor(int address, int longerThan) {
            int best = NONE;
            int length = longerThan;
            for (int i = 0; i < told; i++) {
                if (toldLength[i] > length && inPrefix(address, toldPrefix[i], toldLength[i])) {
                    best = i;
                    length = toldLength[i];
                }
            }
            return best;
        }

        boolean rulesPass(int source, int dest, int service) {
            for (int i = 0; i < rules; i++) {
                if ((ruleService[i] == NONE || ruleService[i] == service)
                        && inPrefix(source, ruleSource[i], ruleLength[i]) && inPrefix(dest, ruleDest[i], ruleFar[i])) {
                    return rulePasses[i];
                }
            }
            return true;
        }

        int translatedBack(int dest, int now) {
            for (int port = 0; port < ROUTER_PORTS; port++) {
                if (pools[port].contains(dest)) {
                    int holder = pools[port].holderOf(dest, now);
                    return holder == NONE ? dest : holder;
                }
            }
            return dest;
        }
    }

    /** The addresses that a port gives to sources, with who has got them and when they were used last. */
    private static final class Pool {
        private int from;
        private int many;
        private final int[] holders;
        private final int[] usedAt;

        Pool() {
            holders = new int[MAX_POOL];
            usedAt = new int[MAX_POOL];
        }

        int replaceBy(int newFrom, int newMany) {
            int before = many;
            from = newFrom;
            many = newMany;
            Arrays.fill(holders, NONE);
            return before;
        }

        boolean contains(int address) {
            return address >= from && address < from + many;
        }

        /** Who has got an address of the pool: NONE if it is free. It is used by that. */
        int holderOf(int address, int now) {
            int place = address - from;
            if (place < 0 || place >= MAX_POOL || isFree(place, now)) {
                return NONE;
            }
            usedAt[place] = now;
            return holders[place];
        }

        /** What a source is on this port: itself without a pool, NONE if the pool is used up. */
        int addressFor(int source, int now) {
            if (many == 0) {
                return source;
            }
            int place = placeOf(source, now);
            if (place == NONE) {
                return NONE;
            }
            holders[place] = source;
            usedAt[place] = now;
            return from + place;
        }

        /** Where a lone packet's source gets its address. */
        int firstFor(int source) {
            return many == 0 ? source : from;
        }

        private int placeOf(int source, int now) {
            int free = NONE;
            for (int place = many - 1; place >= 0; place--) {
                if (isFree(place, now)) {
                    free = place;
                } else if (holders[place] == source) {
                    return place;
                }
            }
            return free;
        }

        private boolean isFree(int place, int now) {
            return holders[place] == NONE || now - usedAt[place] > ROUTER_MEMORY;
        }
    }

    /** What watching routers noted, by rising ticks, in a ring. */
    private static final class Notes {
        /** Not less than what can arrive in the ticks that are remembered, so that only older notes are written over. */
        private static final int KEPT = 2048;
        private final int[] headers;
        private final int[] ticks;
        private int written;

        Notes() {
            headers = new int[KEPT];
            ticks = new int[KEPT];
            Arrays.fill(headers, NONE);
        }

        void add(int router, int source, int dest, int service, int now) {
            int place = written & (KEPT - 1);
            headers[place] = header(router, source, dest, service);
            ticks[place] = now;
            written++;
        }

        boolean hasSince(int tick, int router, int source, int dest, int service) {
            int wanted = header(router, source, dest, service);
            for (int back = 1; back <= KEPT; back++) {
                int place = (written - back) & (KEPT - 1);
                if (headers[place] == NONE || ticks[place] < tick) {
                    return false;
                }
                if (headers[place] == wanted) {
                    return true;
                }
            }
            return false;
        }

        private static int header(int router, int source, int dest, int service) {
            return ((router * ADDRESSES + source) * ADDRESSES + dest) * SERVICES + service;
        }
    }

    /** What all routers have learnt: an entry for each prefix, 0 for none, and a list of those that are there. */
    private static final class Tables {
        private final int[][] entries;
        private final int[][] known;
        private final int[] counts;

        Tables() {
            entries = new int[MAX_BOXES][PREFIXES];
            known = new int[MAX_BOXES][PREFIXES];
            counts = new int[MAX_BOXES];
        }

        void clear(int router) {
            for (int i = 0; i < counts[router]; i++) {
                entries[router][known[router][i]] = 0;
            }
            counts[router] = 0;
        }

        void offer(int router, int prefix, int entry) {
            int before = entries[router][prefix];
            if (before == 0 && counts[router] < PREFIXES) {
                known[router][counts[router]] = prefix;
                counts[router]++;
            }
            if (before == 0 || entry < before) {
                entries[router][prefix] = entry;
            }
        }

        /** The learnt entry for an address, if its prefix is longer than another one that goes first. */
        int entryFor(int router, int address, int longerThan) {
            for (int length = BITS; length > longerThan && length > 0; length--) {
                int entry = entries[router][prefixNumber(address, length)];
                if (entry != 0) {
                    return entry;
                }
            }
            return 0;
        }

        void copyFrom(Tables other) {
            for (int router = 0; router < MAX_BOXES; router++) {
                clear(router);
                for (int i = 0; i < other.counts[router]; i++) {
                    int prefix = other.known[router][i];
                    offer(router, prefix, other.entries[router][prefix]);
                }
            }
        }

        boolean isLike(Tables other) {
            for (int router = 0; router < MAX_BOXES; router++) {
                if (counts[router] != other.counts[router]) {
                    return false;
                }
                for (int i = 0; i < counts[router]; i++) {
                    int prefix = known[router][i];
                    if (entries[router][prefix] != other.entries[router][prefix]) {
                        return false;
                    }
                }
            }
            return true;
        }
    }

    /** How routers learn, and the next port to which hosts and routers send. */
    private static final class Routing {
        private final Wiring wiring;
        private final Sight sight;
        private final Addresses addresses;
        private final Router[] routers;
        private Tables current;
        private Tables settled;
        private Tables spare;
        /** Nothing changes by learning until something else does. */
        private boolean stable;
        private boolean settledIsFresh;

        Routing(Wiring wiring, Sight sight, Addresses addresses, Router[] routers) {
            this.wiring = wiring;
            this.sight = sight;
            this.addresses = addresses;
            this.routers = routers;
            current = new Tables();
            settled = new Tables();
            spare = new Tables();
        }

        void disturb() {
            stable = false;
            settledIsFresh = false;
        }

        /** Learning in a tick. What is settled stays so by it, since settling only goes on from here. */
        void learn() {
            if (stable) {
                return;
            }
            learnOnce(current);
            stable = spare.isLike(current);
            Tables before = current;
            current = spare;
            spare = before;
        }

        void settle() {
            sight.refresh();
            if (settledIsFresh) {
                return;
            }
            settled.copyFrom(current);
            boolean changed = true;
            for (int i = 0; i < SETTLING_TICKS && changed; i++) {
                learnOnce(settled);
                changed = !spare.isLike(settled);
                Tables before = settled;
                settled = spare;
                spare = before;
            }
            settledIsFresh = true;
        }

        /** Makes the spare tables those that follow from the ones before. */
        private void learnOnce(Tables before) {
            for (int router = 0; router < wiring.boxes; router++) {
                spare.clear(router);
                if (wiring.kindOf(router) == ROUTER) {
                    listenAround(before, router);
                }
            }
        }

        private void listenAround(Tables before, int router) {
            for (int own = 0; own < ROUTER_PORTS; own++) {
                int port = firstPortOf(router) + own;
                long ports = addresses.given[port] == NONE ? 0L : sight.seen[port];
                for (int next = 0; next < PORTS && ports != 0; next++) {
                    if ((ports >> next & 1L) != 0 && addresses.given[next] != NONE
                            && boxOf(next) != router && wiring.kindOf(boxOf(next)) == ROUTER) {
                        hear(before, port, next);
                    }
                }
            }
        }

        private void hear(Tables before, int port, int next) {
            int router = boxOf(port);
            int speaker = boxOf(next);
            int hop = HOP * ownNumber(port) + next;
            int first = firstPortOf(speaker);
            for (int its = first; its < first + ROUTER_PORTS; its++) {
                int prefix = addresses.prefixes[its];
                if (prefix != NONE && !addresses.connects(router, prefix)) {
                    spare.offer(router, prefix, FAR + hop);
                }
            }
            for (int i = 0; i < before.counts[speaker]; i++) {
                int prefix = before.known[speaker][i];
                int distance = before.entries[speaker][prefix] / FAR + 1;
                if (distance <= FARTHEST && !addresses.connects(router, prefix)) {
                    spare.offer(router, prefix, FAR * distance + hop);
                }
            }
        }

        /** A prefix may have become the router's own since the tick in which the table did: then nothing is learnt of it. */
        int learntOf(int router, int prefix) {
            int entry = addresses.connects(router, prefix) ? 0 : current.entries[router][prefix];
            return entry == 0 ? NONE : entry;
        }

        /** The hop by which a host sends; minus the fate if it fails. */
        int hopFromHost(int host, int dest) {
            int port = firstPortOf(host);
            int next = addresses.covers(port, dest) ? dest : addresses.gateways[host];
            if (addresses.given[port] == NONE || next == NONE) {
                return -NO_ROUTE;
            }
            return hopTo(port, next);
        }

        /** The hop by which a router sends on; minus the fate if it fails. */
        int hopFromRouter(Tables tables, int router, int dest) {
            int port = addresses.connectedFor(router, dest);
            int length = port == NONE ? NONE : addresses.lengths[port];
            int next = dest;
            int told = routers[router].toldFor(dest, length);
            if (told != NONE) {
                length = routers[router].toldLength[told];
                next = routers[router].toldNext[told];
                port = addresses.lowestCovering(router, next);
            }
            int entry = tables.entryFor(router, dest, length);
            if (entry != 0) {
                return hopByEntry(router, entry);
            }
            return port == NONE ? -NO_ROUTE : hopTo(port, next);
        }

        int hopByEntry(int router, int entry) {
            int port = firstPortOf(router) + entry / HOP % HOP;
            int next = entry % HOP;
            return sight.reaches(port, next) ? HOP * port + next : -NO_ONE;
        }

        int hopTo(int port, int address) {
            int next = addresses.lowestAt(sight.seen[port], address);
            return next == NONE ? -NO_ONE : HOP * port + next;
        }
    }

    /** What is on a cable, towards a port. */
    private static final class Frame {
        private int packet;
        private int towards;
        private int tag;
        private int sender;
        private int target;
        private int source;
        private int dest;
        private int passed;

        /** Becomes the one that another one is on the next cable. */
        void goOn(Frame other, int nextTowards, int nextTag) {
            packet = other.packet;
            towards = nextTowards;
            tag = nextTag;
            sender = other.sender;
            target = other.target;
            source = other.source;
            dest = other.dest;
            passed = other.passed;
        }
    }

    /** Packets, their frames, and what bridges and routers note of them, tick by tick. */
    private static final class Traffic {
        /** One more than the frames there may be: the one that arrives stays readable while others are put. */
        private static final int RING = MAX_FRAMES + 1;
        private final Wiring wiring;
        private final Sight sight;
        private final Addresses addresses;
        private final Router[] routers;
        private final Routing routing;
        private final Notes notes;
        private int now;
        private final Frame[] ring;
        private int first;
        private int onCables;
        private final Frame draft;
        private int packets;
        private final int[] services;
        private final int[] fates;
        private final int[] places;
        private final int[] sources;
        private final int[] framesOf;
        private final int[][] bridgePorts;
        private final int[][] bridgeTicks;

        Traffic(Wiring wiring, Sight sight, Addresses addresses, Router[] routers, Routing routing) {
            this.wiring = wiring;
            this.sight = sight;
            this.addresses = addresses;
            this.routers = routers;
            this.routing = routing;
            notes = new Notes();
            ring = new Frame[RING];
            for (int i = 0; i < RING; i++) {
                ring[i] = new Frame();
            }
            draft = new Frame();
            services = new int[MAX_PACKETS];
            fates = new int[MAX_PACKETS];
            places = new int[MAX_PACKETS];
            sources = new int[MAX_PACKETS];
            framesOf = new int[MAX_PACKETS];
            Arrays.fill(places, NONE);
            Arrays.fill(sources, NONE);
            bridgePorts = new int[MAX_BOXES][PORTS];
            bridgeTicks = new int[MAX_BOXES][PORTS];
            for (int box = 0; box < MAX_BOXES; box++) {
                Arrays.fill(bridgePorts[box], NONE);
            }
        }

        int launch(int host, int dest, int service) {
            if (packets >= MAX_PACKETS) {
                return NONE;
            }
            int packet = packets;
            packets++;
            services[packet] = service;
            sight.refresh();
            int hop = routing.hopFromHost(host, dest);
            draft.packet = packet;
            draft.source = addresses.given[firstPortOf(host)];
            draft.dest = dest;
            draft.passed = 0;
            if (hop < 0) {
                end(draft, -hop, host);
            } else {
                putOnHop(draft, hop);
                loseIfGone(packet);
            }
            return packet;
        }

        void passTick() {
            now++;
            sight.refresh();
            routing.learn();
            int arriving = onCables;
            for (int i = 0; i < arriving; i++) {
                Frame frame = ring[first];
                first = (first + 1) % RING;
                onCables--;
                framesOf[frame.packet]--;
                if (wiring.across[frame.towards] != NONE) {
                    arrive(frame);
                }
                loseIfGone(frame.packet);
            }
        }

        int notedPort(int bridge, int port) {
            return now - bridgeTicks[bridge][port] > BRIDGE_MEMORY ? NONE : bridgePorts[bridge][port];
        }

        private void arrive(Frame frame) {
            int box = boxOf(frame.towards);
            int kind = wiring.kindOf(box);
            if (kind == BRIDGE) {
                crossBridge(frame, box);
            } else if (frame.target == frame.towards && frame.tag == NONE) {
                if (kind == ROUTER) {
                    comeToRouter(frame, box);
                } else {
                    end(frame, addresses.given[frame.towards] == frame.dest ? DELIVERED : WRONG, box);
                }
            }
        }

        private void crossBridge(Frame frame, int bridge) {
            int net = sight.netInside(frame.towards, frame.tag);
            if (net == BARRED) {
                return;
            }
            int in = ownNumber(frame.towards);
            bridgePorts[bridge][frame.sender] = in;
            bridgeTicks[bridge][frame.sender] = now;
            int known = notedPort(bridge, frame.target);
            for (int out = 0; out < PORTS_PER_BOX; out++) {
                int port = firstPortOf(bridge) + out;
                int tag = sight.tagOutside(port, net);
                if (out != in && (known == NONE || known == out) && tag != BARRED) {
                    put(frame, port, tag);
                }
            }
        }

        private void comeToRouter(Frame frame, int box) {
            frame.dest = routers[box].translatedBack(frame.dest, now);
            if (addresses.isOf(box, frame.dest)) {
                end(frame, DELIVERED, box);
            } else if (frame.passed >= MAX_PASSED) {
                end(frame, OLD, box);
            } else if (!passesRules(frame, box)) {
                end(frame, FILTERED, box);
            } else {
                sendOn(frame, box);
            }
        }

        private boolean passesRules(Frame frame, int box) {
            Router router = routers[box];
            int service = services[frame.packet];
            if (!router.watches) {
                return router.rulesPass(frame.source, frame.dest, service);
            }
            int since = Math.max(now - ROUTER_MEMORY, router.forgottenUpTo + 1);
            boolean passes = notes.hasSince(since, box, frame.dest, frame.source, service)
                    || router.rulesPass(frame.source, frame.dest, service);
            if (passes) {
                notes.add(box, frame.source, frame.dest, service, now);
            }
            return passes;
        }

        private void sendOn(Frame frame, int box) {
            int hop = routing.hopFromRouter(routing.current, box, frame.dest);
            if (hop < 0) {
                end(frame, -hop, box);
                return;
            }
            int source = routers[box].pools[ownNumber(hop / HOP)].addressFor(frame.source, now);
            if (source == NONE) {
                end(frame, POOL, box);
                return;
            }
            frame.source = source;
            frame.passed++;
            putOnHop(frame, hop);
        }

        private void putOnHop(Frame frame, int hop) {
            frame.sender = hop / HOP;
            frame.target = hop % HOP;
            put(frame, frame.sender, NONE);
        }

        private void put(Frame frame, int port, int tag) {
            int towards = wiring.across[port];
            if (towards == NONE || onCables >= MAX_FRAMES) {
                return;
            }
            ring[(first + onCables) % RING].goOn(frame, towards, tag);
            onCables++;
            framesOf[frame.packet]++;
        }

        private void end(Frame frame, int fate, int box) {
            int packet = frame.packet;
            if (fates[packet] == FLYING) {
                fates[packet] = fate;
                places[packet] = box;
                sources[packet] = frame.source;
            }
        }

        private void loseIfGone(int packet) {
            if (fates[packet] == FLYING && framesOf[packet] == 0) {
                fates[packet] = LOST;
            }
        }
    }

    /** Where headers lead in the settled net: packet by packet, or all of them at once by sets. */
    private static final class Proofs {
        private static final int STATES = MAX_BOXES * ADDRESSES;
        private final Wiring wiring;
        private final Sight sight;
        private final Addresses addresses;
        private final Router[] routers;
        private final Routing routing;
        private final int[] passedRouters;
        private int passed;
        /** For each state, a router and a source, the destinations of the headers there, by services. */
        private long[] here;
        private long[] coming;
        private int[] hereStates;
        private int[] comingStates;
        private int hereCount;
        private int comingCount;
        private final long[] headers;
        private final long[] part;
        private int goal;
        private int found;

        Proofs(Wiring wiring, Sight sight, Addresses addresses, Router[] routers, Routing routing) {
            this.wiring = wiring;
            this.sight = sight;
            this.addresses = addresses;
            this.routers = routers;
            this.routing = routing;
            passedRouters = new int[MAX_PASSED];
            here = new long[STATES * SERVICES];
            coming = new long[STATES * SERVICES];
            hereStates = new int[STATES];
            comingStates = new int[STATES];
            headers = new long[SERVICES];
            part = new long[SERVICES];
        }

        int routerPassed(int host, int dest, int service, int place) {
            walk(host, dest, service);
            return place >= 0 && place < passed ? passedRouters[place] : NONE;
        }

        int countByPackets(int host, int to) {
            int count = 0;
            for (int dest = 0; dest < ADDRESSES; dest++) {
                for (int service = 0; service < SERVICES; service++) {
                    count += walk(host, dest, service) == 10 * DELIVERED + to ? 1 : 0;
                }
            }
            return count;
        }

        /** Ten times the fate of a packet, and its box. */
        int walk(int host, int dest, int service) {
            passed = 0;
            int source = addresses.given[firstPortOf(host)];
            int box = host;
            int hop = routing.hopFromHost(host, dest);
            for (int step = 0; step <= MAX_PASSED && hop >= 0; step++) {
                box = boxOf(hop % HOP);
                int fate = fateAt(box, source, dest, service);
                hop = fate == FLYING ? routing.hopFromRouter(routing.settled, box, dest) : -fate;
                if (hop >= 0 && passed < MAX_PASSED) {
                    source = routers[box].pools[ownNumber(hop / HOP)].firstFor(source);
                    passedRouters[passed] = box;
                    passed++;
                }
            }
            return 10 * -hop + box;
        }

        private int fateAt(int box, int source, int dest, int service) {
            if (addresses.isOf(box, dest)) {
                return DELIVERED;
            }
            if (wiring.kindOf(box) != ROUTER) {
                return WRONG;
            }
            if (passed >= MAX_PASSED) {
                return OLD;
            }
            return routers[box].rulesPass(source, dest, service) ? FLYING : FILTERED;
        }

        int countBySets(int host, int to) {
            goal = to;
            found = 0;
            comingCount = 0;
            startFrom(host);
            for (int level = 0; level <= MAX_PASSED && comingCount > 0; level++) {
                turnToComing();
                for (int i = 0; i < hereCount; i++) {
                    int box = hereStates[i] / ADDRESSES;
                    int source = hereStates[i] % ADDRESSES;
                    takeHeaders(hereStates[i]);
                    deliver(headers, ownAddresses(box), box);
                    if (level < MAX_PASSED) {
                        filter(routers[box], source);
                        sendOn(box, source);
                    }
                }
            }
            return found;
        }

        private void startFrom(int host) {
            int port = firstPortOf(host);
            int source = addresses.given[port];
            if (source == NONE) {
                return;
            }
            Arrays.fill(headers, -1L);
            if (splitOff(source, addresses.lengths[port])) {
                sendToEach(port, source);
            }
            int gateway = addresses.gateways[host];
            if (gateway != NONE && splitOff(0, 0)) {
                sendTogether(routing.hopTo(port, gateway), source);
            }
        }

        private void turnToComing() {
            long[] row = here;
            here = coming;
            coming = row;
            int[] states = hereStates;
            hereStates = comingStates;
            comingStates = states;
            hereCount = comingCount;
            comingCount = 0;
        }

        private void takeHeaders(int state) {
            for (int service = 0; service < SERVICES; service++) {
                headers[service] = here[state * SERVICES + service];
                here[state * SERVICES + service] = 0L;
            }
        }

        private long ownAddresses(int box) {
            long own = 0L;
            int first = firstPortOf(box);
            for (int port = first; port < first + PORTS_PER_BOX; port++) {
                own |= addresses.given[port] == NONE ? 0L : 1L << addresses.given[port];
            }
            return own;
        }

        private void deliver(long[] row, long own, int box) {
            for (int service = 0; service < SERVICES; service++) {
                found += box == goal ? Long.bitCount(row[service] & own) : 0;
                row[service] &= ~own;
            }
        }

        /** Leaves the headers that pass the rules of a router. */
        private void filter(Router router, int source) {
            Arrays.fill(part, 0L);
            for (int i = 0; i < router.rules; i++) {
                if (inPrefix(source, router.ruleSource[i], router.ruleLength[i])) {
                    long members = membersOf(router.ruleDest[i], router.ruleFar[i]);
                    for (int service = 0; service < SERVICES; service++) {
                        if (router.ruleService[i] == NONE || router.ruleService[i] == service) {
                            part[service] |= router.rulePasses[i] ? headers[service] & members : 0L;
                            headers[service] &= ~members;
                        }
                    }
                }
            }
            for (int service = 0; service < SERVICES; service++) {
                headers[service] |= part[service];
            }
        }

        /** Each route, in the order in which they count, takes its part of the headers that are left. */
        private void sendOn(int box, int source) {
            for (int length = BITS; length >= 0; length--) {
                sendByConnected(box, length, source);
                sendByTold(box, length, source);
                if (length > 0) {
                    sendByLearnt(box, length, source);
                }
            }
        }

        private void sendByConnected(int box, int length, int source) {
            int first = firstPortOf(box);
            for (int port = first; port < first + ROUTER_PORTS; port++) {
                if (addresses.given[port] != NONE && addresses.lengths[port] == length
                        && splitOff(addresses.given[port], length)) {
                    sendToEach(port, routers[box].pools[port - first].firstFor(source));
                }
            }
        }

        private void sendByTold(int box, int length, int source) {
            Router router = routers[box];
            for (int i = 0; i < router.told; i++) {
                if (router.toldLength[i] == length && splitOff(router.toldPrefix[i], length)) {
                    int port = addresses.lowestCovering(box, router.toldNext[i]);
                    if (port != NONE) {
                        sendTogether(routing.hopTo(port, router.toldNext[i]), router.pools[ownNumber(port)].firstFor(source));
                    }
                }
            }
        }

        private void sendByLearnt(int box, int length, int source) {
            Tables tables = routing.settled;
            for (int i = 0; i < tables.counts[box]; i++) {
                int prefix = tables.known[box][i];
                int firstBits = prefix - prefixNumber(0, length);
                if (firstBits >= 0 && firstBits < 1 << length && splitOff(firstBits << (BITS - length), length)) {
                    int hop = routing.hopByEntry(box, tables.entries[box][prefix]);
                    if (hop >= 0) {
                        sendTogether(hop, routers[box].pools[ownNumber(hop / HOP)].firstFor(source));
                    }
                }
            }
        }

        /** Makes the part those of the headers that are in a prefix, and tells whether there are any. */
        private boolean splitOff(int prefix, int length) {
            long members = membersOf(prefix, length);
            long any = 0L;
            for (int service = 0; service < SERVICES; service++) {
                part[service] = headers[service] & members;
                headers[service] &= ~members;
                any |= part[service];
            }
            return any != 0L;
        }

        /** The part goes from a port to the destinations themselves, each to the lowest port that has it. */
        private void sendToEach(int port, int source) {
            long left = -1L;
            for (int next = 0; next < PORTS; next++) {
                int address = addresses.given[next];
                if (address != NONE && (left >> address & 1L) != 0 && sight.reaches(port, next)) {
                    left &= ~(1L << address);
                    arrive(next, source, 1L << address);
                }
            }
        }

        private void sendTogether(int hop, int source) {
            if (hop >= 0) {
                arrive(hop % HOP, source, -1L);
            }
        }

        /** Those of the part with some destinations come to a port. */
        private void arrive(int port, int source, long dests) {
            int box = boxOf(port);
            if (wiring.kindOf(box) == ROUTER) {
                join(box * ADDRESSES + source, dests);
                return;
            }
            long own = dests & ownAddresses(box);
            for (int service = 0; service < SERVICES; service++) {
                found += box == goal ? Long.bitCount(part[service] & own) : 0;
            }
        }

        private void join(int state, long dests) {
            long before = 0L;
            long more = 0L;
            for (int service = 0; service < SERVICES; service++) {
                before |= coming[state * SERVICES + service];
                more |= part[service] & dests;
                coming[state * SERVICES + service] |= part[service] & dests;
            }
            if (before == 0L && more != 0L && comingCount < STATES) {
                comingStates[comingCount] = state;
                comingCount++;
            }
        }
    }
}

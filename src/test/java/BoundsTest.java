/**
 * Each sentence of the document that names a bound: at it, one below it and one above it, where an answer is told there.
 * What is refused is looked at by RefusedTest.
 */
public final class BoundsTest extends Nets {
    // ---- boxes and cables

    private static void nothingIsThereAtFirst() {
        for (int op = Calls.BOX; op <= Calls.WAY; op++) {
            DrystoneSimnet x = new DrystoneSimnet();
            int[] a = new int[Calls.ARGUMENTS[op]];
            if (op == Calls.CABLE || op == Calls.SEES) a[1] = 4;
            if (op == Calls.ADDRESS || op == Calls.LEARNT) a[2] = 1;
            if (op == Calls.TICK) a[0] = 1;
            String want = op == Calls.BOX || op == Calls.FRAMES ? "0" : op == Calls.TICK ? "1" : "throws.IndexOutOfBoundsException";
            String got = Calls.answer(x, op, a);
            due("the first call, " + Calls.NAMES[op] + ", answers " + got, got.equals(want), true);
            due("the first box behind it", x.box(BRIDGE), op == Calls.BOX ? 1 : 0);
        }
    }

    private static void tenBoxes() {
        DrystoneSimnet x = new DrystoneSimnet();
        for (int i = 0; i < 10; i++) {
            int next = i;
            outside("box " + next + " is not there yet", () -> x.gateway(next, NONE));
            outside("nor its port", () -> x.address(port(next, 0), 1, 1));
            due("box " + i, x.box(HOST), i);
            due("it is there", x.gateway(i, NONE), NONE);
            due("and its port", x.address(port(i, 0), 1, 1), NONE);
        }
        full("the eleventh", () -> x.box(ROUTER));
        outside("there is no box 10", () -> x.gateway(10, NONE));
        outside("nor its port", () -> x.address(40, 1, 1));
        due("box 9 is", x.reach(9, 9), 0);
    }

    /** The ports of each kind of box, as the first box and as the last one. */
    private static void portsOfKinds() {
        for (int kind = HOST; kind <= ROUTER; kind++) for (int place = 0; place < 10; place++) {
            int many = kind == HOST ? 1 : kind == ROUTER ? 3 : 4;
            DrystoneSimnet x = new DrystoneSimnet();
            for (int i = 0; i < 10; i++) x.box(i == place ? kind : BRIDGE);
            int first = port(place, 0), other = port(place == 0 ? 1 : 0, 0);
            for (int own = 0; own < many; own++) due("port " + own + " of box " + place, x.cable(first + own, other + own), own);
            for (int own = many; own < 4; own++) {
                int none = first + own;
                outside("port " + own + " of box " + place + ", of kind " + kind, () -> x.cable(none, other + 3));
                outside("likewise to it", () -> x.cable(other + 3, none));
            }
            outside("port -1", () -> x.cable(-1, first));
            outside("port 40", () -> x.cable(first, 40));
        }
    }

    private static void sixteenCables() {
        DrystoneSimnet x = boxes(BRIDGE, BRIDGE, BRIDGE, BRIDGE, BRIDGE, BRIDGE, BRIDGE, BRIDGE, BRIDGE, BRIDGE);
        for (int i = 0; i < 16; i++) {
            int next = i;
            outside("cable " + next + " is not there yet", () -> x.turn(next) ? 1 : 0);
            outside("nor is it blocked", () -> x.isBlocked(next) ? 1 : 0);
            due("cable " + i, x.cable(i, 39 - i), i);
            due("broken", x.turn(i), true);
            due("whole", x.turn(i), false);
        }
        x.turn(3);
        full("the seventeenth, though one is broken", () -> x.cable(16, 20));
        full("where the broken one is", () -> x.cable(3, 20));
        outside("there is no cable 16", () -> x.turn(16) ? 1 : 0);
        due("cable 15 is", x.turn(15), true);
    }

    /** In a ring of bridges the far end is cut: behind the middle, as of two ways that to the lower bridge stays. */
    private static void ringsOfBridges() {
        for (int many = 2; many <= 10; many++) {
            DrystoneSimnet x = new DrystoneSimnet();
            for (int i = 0; i < many; i++) x.box(BRIDGE);
            for (int i = 0; i < many; i++) {
                due("no ring yet, of " + many, blocked(x), 0);
                x.cable(port(i, 1), port((i + 1) % many, 0));
            }
            due("a ring of " + many, blocked(x), 1 << many / 2);
            for (int cut = 0; cut < many; cut++) {
                x.turn(cut);
                due("cut at " + cut, blocked(x), 0);
                x.turn(cut);
                due("a ring again", blocked(x), 1 << many / 2);
            }
        }
    }
    /** The blocked cables, one bit each. */
    private static int blocked(DrystoneSimnet x) {
        int those = 0;
        for (int cable = 0; cable < 16; cable++) {
            try {
                those |= x.isBlocked(cable) ? 1 << cable : 0;
            } catch (IndexOutOfBoundsException e) {
                return those;
            }
        }
        return those;
    }

    /** A row of ten bridges, and one cable more from its end to each of the others. */
    private static void rowsOfBridges() {
        for (int to = 0; to <= 8; to++) {
            DrystoneSimnet x = new DrystoneSimnet();
            for (int i = 0; i < 10; i++) x.box(BRIDGE);
            for (int i = 0; i < 9; i++) x.cable(port(i, 1), port(i + 1, 0));
            due("a row", blocked(x), 0);
            due("the last one is 9", x.cable(port(9, 1), port(to, 2)), 9);
            // The ring is of the bridges from 'to' to 9; counted from 'to', the far end is cut behind its middle.
            int cut = to == 8 ? 9 : to + (10 - to) / 2;
            due("a ring back to " + to, blocked(x), 1 << cut);
        }
    }

    private static void lowestBridgeThenLowestCable() {
        DrystoneSimnet x = boxes(BRIDGE, BRIDGE, BRIDGE, BRIDGE);
        x.cable(port(3, 0), port(2, 0)); // 0
        x.cable(port(3, 1), port(1, 0)); // 1
        x.cable(port(3, 2), port(1, 1)); // 2
        x.cable(port(2, 1), port(0, 0)); // 3
        due("a row to the root", blocked(x), 1 << 2);
        x.cable(port(1, 2), port(0, 1)); // 4
        due("the lower bridge by its lower cable, ahead of the lowest cable", blocked(x), 1 << 0 | 1 << 2);
        x.turn(1);
        due("its higher cable", blocked(x), 1 << 0);
        x.turn(2);
        due("the higher bridge", blocked(x), 0);
        x.turn(1);
        due("its lower cable again", blocked(x), 1 << 0);
        x.turn(4);
        due("1 less far goes ahead of lower: 1 is now behind 3", blocked(x), 0);
        x.turn(3);
        due("without the root the lowest of the others is one", blocked(x), 0);
        x.turn(2);
        due("1 has both cables of 3", blocked(x), 1 << 2);
        due("the root has none left", x.cable(port(0, 2), port(3, 3)), 5);
        due("now 3 is next to the root", blocked(x), 1 << 2);
    }

    // ---- nets

    /** The net, or tag, that a port makes of a frame: NONE stands for no tag, and 9 for a frame that is lost. */
    private static int inside(int net, int tag) { return net == TRUNK ? Math.max(tag, 0) : tag == NONE || tag == net ? net : 9; }
    private static int outside(int net, int in) { return net == TRUNK ? in : net == in ? NONE : 9; }

    /** Two hosts behind two bridges, whose four ports are of all nets, or trunks. */
    private static void netsAndTrunks() {
        for (int all = 0; all < 625; all++) {
            int[] nets = {all % 5, all / 5 % 5, all / 25 % 5, all / 125};
            DrystoneSimnet x = boxes(HOST, BRIDGE, BRIDGE, HOST);
            x.cable(port(0, 0), port(1, 0));
            x.cable(port(1, 3), port(2, 0));
            x.cable(port(2, 3), port(3, 0));
            x.address(port(0, 0), 0, 1);
            x.address(port(3, 0), 1, 1);
            int[] ports = {port(1, 0), port(1, 3), port(2, 0), port(2, 3)};
            for (int i = 0; i < 4; i++) due("net 0 at first", x.net(ports[i], nets[i]), 0);
            int in = inside(nets[0], NONE), between = outside(nets[1], in);
            int behind = between == 9 ? 9 : inside(nets[2], between), out = behind == 9 ? 9 : outside(nets[3], behind);
            String what = "by " + nets[0] + ", " + nets[1] + ", " + nets[2] + ", " + nets[3];
            due(what, x.sees(0, 12), out == NONE);
            fate(what, x, x.send(0, 1, 0), out == NONE ? FLYING : NO_ONE, out == NONE ? NONE : 0, out == NONE ? NONE : 0);
            x.tick(2);
            due(what + ": leaves both bridges", x.frames(), out == NONE ? 1 : 0);
            for (int i = 0; i < 4; i++) due("the net before", x.net(ports[i], 0), nets[i]);
        }
    }
    /** Frames that are on their way while nets change: what is lost by a tag notes nothing, what cannot leave is noted. */
    private static void framesAndTags() {
        for (int all = 0; all < 25; all++) {
            int first = all % 5, second = all / 5;
            DrystoneSimnet x = boxes(HOST, BRIDGE, BRIDGE, HOST);
            x.cable(port(0, 0), port(1, 0));
            x.cable(port(1, 3), port(2, 0));
            x.cable(port(2, 3), port(3, 0));
            x.address(port(0, 0), 0, 1);
            x.address(port(3, 0), 1, 1);
            int packet = x.send(0, 1, 0);
            x.net(port(1, 0), first);
            x.net(port(1, 3), TRUNK);
            x.tick(1);
            x.net(port(2, 0), second);
            x.net(port(2, 3), 3);
            x.tick(1);
            int tag = first == TRUNK ? 0 : first, in = inside(second, tag);
            String what = "tag " + tag + " into " + second;
            due(what + ": noted at the first", x.noted(1, 0), 0);
            due(what + ": noted at the second", x.noted(2, 0), in == 9 ? NONE : 0);
            due(what + ": leaves", x.frames(), in == 3 ? 1 : 0);
            x.tick(1);
            fate(what, x, packet, in == 3 ? DELIVERED : LOST, in == 3 ? 3 : NONE, in == 3 ? 0 : NONE);
        }
    }
    /** Hosts and routers take only frames without a tag, be it that of net 0. */
    private static void tagsAtHostsAndRouters() {
        for (int net = 0; net <= TRUNK; net++) {
            DrystoneSimnet x = boxes(HOST, BRIDGE, ROUTER);
            x.cable(port(0, 0), port(1, 0));
            x.cable(port(2, 2), port(1, 1));
            x.address(port(0, 0), 0, 1);
            x.address(port(2, 2), 1, 1);
            int toRouter = x.send(0, 1, 0);
            x.net(port(1, 0), net);
            x.net(port(1, 1), TRUNK);
            x.tick(2);
            fate("a tag at a router, from net " + net, x, toRouter, LOST, NONE, NONE);
            due("it is not seen", x.sees(0, port(2, 2)), false);
            due("the other way net 0 alone, or the trunk by its tag", x.sees(port(2, 2), 0), net == 0);
            x.net(port(1, 1), net);
            due("in one net", x.sees(0, port(2, 2)), net != TRUNK);
        }
    }

    /** Two hosts at the ends of as many bridges as there may be: each of them takes a tick. */
    private static void farthestSight() {
        for (int bridges = 0; bridges <= 8; bridges++) {
            DrystoneSimnet x = new DrystoneSimnet();
            int last = bridges + 1;
            for (int i = 0; i <= last; i++) x.box(i == 0 || i == last ? HOST : BRIDGE);
            for (int i = 0; i < last; i++) x.cable(port(i, i == 0 ? 0 : 3), port(i + 1, 0));
            x.address(0, 62, 1);
            x.address(port(last, 0), 63, 1);
            due("sees over " + bridges, x.sees(0, port(last, 0)), true);
            due("and back", x.sees(port(last, 0), 0), true);
            due("proved", x.proved(0, 63, 0), 10 * DELIVERED + last);
            int packet = x.send(0, 63, 0);
            for (int tick = 1; tick <= bridges; tick++) {
                x.tick(1);
                due("flying at " + tick, x.fate(packet), FLYING);
                due("noted there", x.noted(tick, 0), 0);
            }
            x.tick(1);
            fate("over " + bridges, x, packet, DELIVERED, last, 62);
            x.turn(bridges);
            due("without the last cable", x.sees(0, port(last, 0)), false);
        }
    }

    // ---- addresses, routes, rules

    /** The lowest and the highest address of the prefix of 42 with a length, and what is next to them. */
    private static int low(int length) { return length == 0 ? 0 : 42 & -(64 >> length); }
    private static int high(int length) { return low(length) + (64 >> length) - 1; }

    /** Such addresses: those at the ends of the prefix, next to them, and at the ends of all. */
    private static int[] edges(int length) { return new int[] {0, low(length) - 1, low(length), high(length), high(length) + 1, 63}; }
    private static boolean has(int length, int address) { return address >= low(length) && address <= high(length); }
    private static boolean isAddress(int address) { return address >= 0 && address <= 63; }

    /** A host without a gateway sends to those in its prefix alone. */
    private static void prefixesOfHosts() {
        for (int length = 1; length <= 6; length++) for (int dest : edges(length)) {
            if (!isAddress(dest)) continue;
            DrystoneSimnet x = boxes(HOST, HOST);
            x.cable(0, 4);
            due("no address", x.proved(0, dest, 0), 10 * NO_ROUTE);
            due("no address before", x.address(0, 42, length), NONE);
            String what = "42/" + length + " to " + dest;
            due(what + ", nobody", x.proved(0, dest, 0), has(length, dest) ? 10 * NO_ONE : 10 * NO_ROUTE);
            x.address(4, dest, 1);
            due(what, x.proved(0, dest, 3), has(length, dest) ? 10 * DELIVERED + 1 : 10 * NO_ROUTE);
            int packet = x.send(0, dest, 3);
            x.tick(1);
            due(what + ", sent", x.fate(packet), has(length, dest) ? DELIVERED : NO_ROUTE);
            due(what + ", from", x.source(packet), 42);
        }
    }

    /** A gateway is an address like others: the lowest and the highest one, in the host's prefix or not. */
    private static void gateways() {
        for (int gateway : new int[] {0, 1, 62, 63}) {
            DrystoneSimnet x = boxes(HOST, ROUTER);
            x.cable(0, 6);
            x.address(0, 30, 6);
            x.address(4, 40, 6);
            due("none before", x.gateway(0, gateway), NONE);
            due("nobody at " + gateway, x.proved(0, 40, 0), 10 * NO_ONE);
            x.address(6, gateway, 6);
            due("by " + gateway, x.proved(0, 40, 0), 10 * DELIVERED + 1);
            due("it was", x.gateway(0, NONE), gateway);
            due("none", x.proved(0, 40, 0), 10 * NO_ROUTE);
        }
    }

    /** A router with nothing but one told route, of each length. */
    private static void prefixesOfRoutes() {
        for (int length = 0; length <= 6; length++) for (int next : new int[] {0, 63}) for (int dest : edges(length)) {
            if (!isAddress(dest) || dest / 2 == next / 2) continue;
            DrystoneSimnet x = boxes(HOST, ROUTER, HOST);
            x.cable(port(0, 0), port(1, 0));
            x.cable(port(1, 1), port(2, 0));
            x.address(port(0, 0), 20, 6);
            x.gateway(0, 21);
            x.address(port(1, 0), 21, 6);
            x.address(port(1, 1), next ^ 1, 5);
            x.address(port(2, 0), next, 6);
            due("the first", x.route(1, 42, length, next), 1);
            due("42/" + length + " to " + dest, x.proved(0, dest, 1), has(length, dest) ? 10 * WRONG + 2 : 10 * NO_ROUTE + 1);
        }
    }

    /** The sixth told route leads on, a refused seventh one does not; of those of one length the first leads. */
    private static void sixRoutes() {
        DrystoneSimnet x = row();
        for (int i = 1; i <= 6; i++) {
            due("nothing yet", x.proved(0, 40 + i, 0), 10 * NO_ROUTE + 1);
            due("route " + i, x.route(1, 40 + i, 6, 10), i);
            due("it leads on", x.proved(0, 40 + i, 0), 10 * WRONG + 2);
        }
        full("the seventh", () -> x.route(1, 47, 6, 10));
        due("it does not lead on", x.proved(0, 47, 0), 10 * NO_ROUTE + 1);
        due("the sixth still does", x.proved(0, 46, 0), 10 * WRONG + 2);
        x.box(ROUTER);
        due("another router has room", x.route(3, 47, 6, 10), 1);
        for (int second = 0; second < 2; second++) {
            DrystoneSimnet y = row();
            y.route(1, 40, 5, second == 0 ? 10 : 11);
            y.route(1, 41, 5, second == 0 ? 11 : 10);
            due("the first of one prefix", y.proved(0, 40, 0), second == 0 ? 10 * WRONG + 2 : 10 * NO_ONE + 1);
            y.route(1, 41, 6, second == 0 ? 11 : 10);
            due("a longer one behind it", y.proved(0, 41, 0), second == 0 ? 10 * NO_ONE + 1 : 10 * WRONG + 2);
        }
    }

    /**
     * To 42 a router has a connected route, at whose end is host 2, a told one, to nobody, and a learnt one, of router 3,
     * which takes 42 as its own; each of each length, or none. The greatest length goes first, then the kind.
     */
    private static void lengthsAndKinds() {
        for (int connected = 0; connected <= 6; connected++) for (int told = -1; told <= 6; told++) for (int learnt = 0; learnt <= 6; learnt++) {
            DrystoneSimnet x = boxes(HOST, ROUTER, HOST, ROUTER);
            x.cable(port(0, 0), port(1, 0));
            x.cable(port(1, 1), port(2, 0));
            x.cable(port(1, 2), port(3, 0));
            x.address(port(0, 0), 1, 6);
            x.gateway(0, 2);
            x.address(port(1, 0), 2, 6);
            x.address(port(2, 0), 42, 6);
            x.address(port(1, 2), 4, 5);
            x.address(port(3, 0), 5, 5);
            if (connected > 0) x.address(port(1, 1), 43, connected);
            if (told >= 0) x.route(1, 42, told, 4);
            if (learnt > 0) x.address(port(3, 1), 42, learnt);
            boolean in = connected > 0 && connected < 6;
            int fate = in && connected >= told && connected >= learnt ? 10 * DELIVERED + 2 : told >= 0 && told >= learnt ? 10 * NO_ONE + 1
                : learnt > 0 ? 10 * DELIVERED + 3 : 10 * NO_ROUTE + 1;
            String what = "connected " + connected + ", told " + told + ", learnt " + learnt;
            due(what, x.proved(0, 42, 0), fate);
            x.tick(1);
            int packet = x.send(0, 42, 0);
            x.tick(2);
            due(what + ", sent", 10 * x.fate(packet) + x.where(packet), fate);
            due(what + ", by sets", x.reach(0, 3), x.reachAnew(0, 3));
        }
    }

    /** A connected route, and the next address of a told one, go by the lowest port: one below the other. */
    private static void lowestPorts() {
        for (int near = 0; near < 3; near++) for (int far = 0; far < 3; far++) {
            if (near == far) continue;
            DrystoneSimnet x = boxes(ROUTER, HOST, HOST, HOST);
            int guest = 3 - near - far;
            x.cable(port(0, guest), port(1, 0));
            x.cable(port(0, near), port(2, 0));
            x.cable(port(0, far), port(3, 0));
            x.address(port(1, 0), 1, 6);
            x.gateway(1, 2);
            x.address(port(0, guest), 2, 6);
            x.address(port(0, near), 40, 3);
            x.address(port(0, far), 41, 3);
            x.address(port(2, 0), 42, 3);
            x.address(port(3, 0), 42, 3);
            x.route(0, 60, 6, 42);
            due("the lower one of " + near + " and " + far, x.proved(1, 42, 0), 10 * DELIVERED + (near < far ? 2 : 3));
            due("for the next address", x.proved(1, 60, 0), 10 * WRONG + (near < far ? 2 : 3));
            x.address(port(0, far), 41, 4);
            due("the longer one", x.proved(1, 42, 0), 10 * DELIVERED + 3);
            due("the lower one still, for the next address", x.proved(1, 60, 0), 10 * WRONG + (near < far ? 2 : 3));
        }
    }

    /** Of several ports with an address the lowest one that is seen. */
    private static void lowestOneAtAnAddress() {
        DrystoneSimnet x = boxes(BRIDGE, HOST, HOST, HOST, HOST);
        for (int i = 0; i < 4; i++) x.cable(port(0, i), port(4 - i, 0));
        x.address(port(4, 0), 1, 1);
        for (int i = 1; i <= 3; i++) x.address(port(i, 0), 7, 1);
        due("the lowest", x.proved(4, 7, 0), 10 * DELIVERED + 1);
        x.turn(3);
        due("the next one, without it", x.proved(4, 7, 0), 10 * DELIVERED + 2);
        x.turn(2);
        due("the last one", x.proved(4, 7, 0), 10 * DELIVERED + 3);
        x.turn(1);
        due("none", x.proved(4, 7, 0), 10 * NO_ONE + 4);
        x.turn(3);
        due("the lowest again", x.proved(4, 7, 0), 10 * DELIVERED + 1);
        x.address(port(1, 0), 6, 1);
        due("not with another address", x.proved(4, 7, 0), 10 * NO_ONE + 4);
    }

    // ---- learning

    /** Distances are 1 to 7: what is 7 away is told, but nobody takes it as 8. Each router hears it a tick later. */
    private static void distances() {
        DrystoneSimnet x = chain(10);
        x.address(port(0, 2), 60, 6);
        for (int tick = 1; tick <= 9; tick++) {
            x.tick(1);
            for (int far = 1; far <= 9; far++) {
                int want = far <= 7 && far <= tick ? 10000 * far + port(far - 1, 1) : NONE;
                due("router " + far + " at tick " + tick, x.learnt(far, 60, 6), want);
            }
        }
        due("the greatest answer in a row", x.learnt(7, 60, 6), 70025);
        x.tick(30);
        due("not even later", x.learnt(8, 60, 6), NONE);
        x.address(port(0, 2), 59, 6);
        for (int tick = 1; tick <= 8; tick++) {
            x.tick(1);
            due("the new one at " + tick, x.learnt(7, 59, 6), tick >= 7 ? 70025 : NONE);
        }
    }

    /** The prefix of 42 with a length is learnt as one, whatever address of it is told, and no other one with it. */
    private static void prefixesThatAreLearnt() {
        for (int length = 1; length <= 6; length++) for (int told : new int[] {low(length), high(length)}) {
            DrystoneSimnet x = boxes(ROUTER, ROUTER);
            x.cable(port(0, 2), port(1, 1));
            x.address(port(0, 2), length == 1 ? 1 : 62, 6);
            x.address(port(1, 1), length == 1 ? 2 : 63, 6);
            x.address(port(1, 2), told, length);
            x.tick(1);
            for (int asked : edges(length)) {
                boolean isLink = length == 6 && (asked == 62 || asked == 63);
                if (isAddress(asked) && !isLink) due("42/" + length + " by " + asked, x.learnt(0, asked, length), has(length, asked) ? 10000 + 200 + port(1, 1) : NONE);
            }
            if (length > 1) due("not a shorter one", x.learnt(0, told, length - 1), NONE);
            if (length < 6) due("not a longer one", x.learnt(0, told, length + 1), NONE);
            due("who tells it has not learnt it", x.learnt(1, told, length), NONE);
        }
    }

    /** What is learnt leads those in its prefix, and no others; at the ends of all addresses, too. */
    private static void prefixesOfLearntRoutes() {
        for (int length = 1; length <= 6; length++) for (int of : new int[] {0, 42, 63}) {
            int low = of & -(64 >> length), high = low + (64 >> length) - 1;
            for (int dest : new int[] {0, low - 1, low, high, high + 1, 63}) {
                if (!isAddress(dest)) continue;
                int link = of < 32 ? 60 : 16, own = length == 6 ? low : low + 1;
                if (dest > link && dest <= link + 3) continue;
                DrystoneSimnet x = boxes(HOST, ROUTER, ROUTER, HOST);
                x.cable(port(0, 0), port(1, 0));
                x.cable(port(1, 1), port(2, 0));
                x.cable(port(2, 1), port(3, 0));
                x.address(port(0, 0), link, 6);
                x.gateway(0, link + 1);
                x.address(port(1, 0), link + 1, 6);
                x.address(port(1, 1), link + 2, 6);
                x.address(port(2, 0), link + 3, 6);
                x.address(port(2, 1), own, length);
                x.address(port(3, 0), dest, 6);
                boolean in = dest >= low && dest <= high;
                String what = dest + " by " + of + "/" + length;
                due(what, x.proved(0, dest, 0), in ? 10 * DELIVERED + (dest == own ? 2 : 3) : 10 * NO_ROUTE + 1);
                both(what, x, 0, 3, in && dest != own ? 4 : 0);
                both(what + ", the router's own", x, 0, 2, 8);
            }
        }
    }

    /** Not even if the next router would have a way: 8 routers behind the first one is what it does not know. */
    private static void learntRoutesLeadNoOthers() {
        for (int length = 2; length <= 6; length++) {
            DrystoneSimnet x = new DrystoneSimnet();
            for (int i = 0; i < 9; i++) x.box(ROUTER);
            x.box(HOST);
            x.cable(port(9, 0), port(0, 0));
            x.address(port(9, 0), 32, 5);
            x.address(port(0, 0), 33, 5);
            x.gateway(9, 33);
            for (int i = 0; i < 8; i++) {
                x.cable(port(i, 1), port(i + 1, 0));
                x.address(port(i, 1), 34 + 2 * i, 5);
                x.address(port(i + 1, 0), 35 + 2 * i, 5);
                if (i > 0) x.route(i, 0, 0, 35 + 2 * i);
            }
            int next = 64 >> length;
            x.address(port(1, 2), 0, length);
            x.address(port(8, 2), next, 6);
            due("in 0/" + length, x.proved(9, next - 1, 0), length == 6 ? 10 * DELIVERED + 1 : 10 * NO_ONE + 1);
            due("behind it", x.proved(9, next, 0), 10 * NO_ROUTE + 0);
            both("by the link alone, which is 7 away", x, 9, 8, 4);
            x.route(0, 0, 0, 35);
            due("by a told one", x.proved(9, next, 0), 10 * DELIVERED + 8);
            both("likewise", x, 9, 8, 8);
        }
    }

    /** The least distance goes first, then the lowest own port, then the lowest next port. */
    private static void leastIsLearnt() {
        for (int near = 0; near < 3; near++) for (int far = 0; far < 3; far++) {
            if (near == far) continue;
            DrystoneSimnet x = boxes(ROUTER, ROUTER, ROUTER);
            x.cable(port(0, near), port(1, 0));
            x.cable(port(0, far), port(2, 0));
            x.cable(port(1, 1), port(2, 1));
            x.address(port(0, near), 0, 6);
            x.address(port(0, far), 1, 6);
            x.address(port(1, 0), 2, 6);
            x.address(port(2, 0), 3, 6);
            x.address(port(1, 1), 4, 6);
            x.address(port(2, 1), 5, 6);
            x.address(port(1, 2), 40, 6);
            x.tick(3);
            due("the nearer one by port " + near, x.learnt(0, 40, 6), 10000 + 100 * near + port(1, 0));
            x.address(port(2, 2), 40, 6);
            x.tick(2);
            int lowest = Math.min(near, far);
            due("the lower own port", x.learnt(0, 40, 6), 10000 + 100 * lowest + port(lowest == near ? 1 : 2, 0));
            x.address(port(1, 2), 41, 6);
            x.tick(2);
            due("the other one", x.learnt(0, 40, 6), 10000 + 100 * far + port(2, 0));
        }
        DrystoneSimnet y = boxes(ROUTER, BRIDGE, ROUTER, ROUTER);
        y.cable(port(0, 0), port(1, 0));
        y.cable(port(3, 2), port(1, 1));
        y.cable(port(2, 2), port(1, 2));
        y.cable(port(2, 1), port(1, 3));
        y.address(port(0, 0), 0, 6);
        y.address(port(3, 2), 1, 6);
        y.address(port(2, 2), 2, 6);
        y.address(port(3, 0), 40, 6);
        y.address(port(2, 0), 40, 6);
        y.tick(1);
        due("the lower next port, of the lower router", y.learnt(0, 40, 6), 10000 + port(2, 2));
        y.address(port(2, 1), 3, 6);
        y.tick(1);
        due("and of the lower of its ports", y.learnt(0, 40, 6), 10000 + port(2, 1));
    }

    // ---- rules and notes

    /** A rule for the source, or for the destination, in the prefix of 42 with a length. */
    private static void prefixesOfRules() {
        for (int length = 0; length <= 6; length++) for (int v : edges(length)) {
            if (!isAddress(v)) continue;
            DrystoneSimnet x = row();
            x.address(port(0, 0), v, 6);
            x.rule(1, 42, length, 10, 6, NONE, false);
            due("from " + v + " by 42/" + length, x.proved(0, 10, 0), has(length, v) ? 10 * FILTERED + 1 : 10 * DELIVERED + 2);
            both("not from " + v, x, 0, 2, has(length, v) ? 0 : 4);
            DrystoneSimnet y = row();
            y.address(port(0, 0), 1, 6);
            y.route(1, 0, 0, 10);
            y.rule(1, 1, 6, 42, length, NONE, false);
            due("to " + v + " by 42/" + length, y.proved(0, v, 0) / 10 == FILTERED, has(length, v));
            y.rule(1, 1, 6, v, 6, NONE, false);
            due("to " + v + " then", y.proved(0, v, 0), 10 * FILTERED + 1);
        }
    }

    private static void eightRules() {
        DrystoneSimnet x = row();
        x.route(1, 40, 3, 10);
        for (int i = 1; i <= 8; i++) {
            due("passes", x.proved(0, 39 + i, 0), 10 * WRONG + 2);
            due("rule " + i, x.rule(1, 0, 0, 39 + i, 6, NONE, false), i);
            due("does not", x.proved(0, 39 + i, 0), 10 * FILTERED + 1);
        }
        full("the ninth", () -> x.rule(1, 0, 0, 10, 6, NONE, false));
        due("it does nothing", x.proved(0, 10, 0), 10 * DELIVERED + 2);
        due("the first still does", x.proved(0, 40, 0), 10 * FILTERED + 1);
        x.box(ROUTER);
        due("another router has room", x.rule(3, 0, 0, 0, 0, 0, false), 1);
        // The first rule that fits counts, from the first one to the eighth.
        for (int first = 0; first < 8; first++) {
            DrystoneSimnet y = row();
            for (int i = 0; i < first; i++) y.rule(1, 0, 0, 11, 6, NONE, i % 2 == 0);
            y.rule(1, 0, 0, 10, 6, 2, false);
            for (int i = first + 1; i < 8; i++) y.rule(1, 0, 0, 0, 0, NONE, true);
            for (int service = 0; service < 4; service++) {
                due("rule " + first + " for service " + service, y.proved(0, 10, service), service == 2 ? 10 * FILTERED + 1 : 10 * DELIVERED + 2);
            }
            both("rule " + first, y, 0, 2, 3);
        }
    }

    private static void servicesOfRules() {
        for (int service = -1; service <= 3; service++) for (int sent = 0; sent <= 3; sent++) {
            DrystoneSimnet x = row();
            x.rule(1, 0, 0, 0, 0, service, false);
            boolean fits = service == NONE || service == sent;
            due("service " + sent + " by " + service, x.proved(0, 10, sent), fits ? 10 * FILTERED + 1 : 10 * DELIVERED + 2);
            both("of all", x, 0, 2, service == NONE ? 0 : 3);
            int packet = x.send(0, 10, sent);
            x.tick(2);
            due("sent", x.fate(packet), fits ? FILTERED : DELIVERED);
        }
    }

    /** As row(), and the router, which watches, lets nothing come from host 2 but replies. */
    private static DrystoneSimnet watched() {
        DrystoneSimnet x = row();
        x.rule(1, 10, 6, 0, 0, NONE, false);
        x.watch(1, true);
        return x;
    }

    /** A note is of use in its own tick, and up to 30 ticks later; a reply notes itself, with its own tick. */
    private static void ticksOfNotes() {
        for (int first = 0; first < 2; first++) {
            DrystoneSimnet x = watched();
            if (first == 0) x.send(0, 10, 0);
            int reply = x.send(2, 1, 0);
            if (first == 1) x.send(0, 10, 0);
            x.tick(1);
            due("the reply in the same tick", x.fate(reply), first == 0 ? FLYING : FILTERED);
        }
        for (int late = 1; late <= 33; late++) {
            DrystoneSimnet x = watched();
            x.send(0, 10, 0);
            pass(x, late);
            int reply = x.send(2, 1, 0);
            x.tick(1);
            due("the reply " + late + " ticks later", x.fate(reply), late <= 30 ? FLYING : FILTERED);
        }
        for (int late = 29; late <= 32; late++) {
            DrystoneSimnet x = watched();
            x.send(0, 10, 0);
            x.tick(20);
            x.send(2, 1, 0);
            x.tick(1);
            x.rule(1, 1, 6, 0, 0, NONE, false);
            pass(x, late - 1);
            int again = x.send(0, 10, 0);
            x.tick(1);
            due("a reply to the reply, " + late + " ticks later", x.fate(again), late <= 30 ? FLYING : FILTERED);
            int reply = x.send(2, 1, 0);
            x.tick(1);
            due("and to that", x.fate(reply), late <= 30 ? FLYING : FILTERED);
        }
    }
    /** More ticks than one call lets pass. */
    private static void pass(DrystoneSimnet x, int ticks) {
        for (int left = ticks; left > 0; left -= 30) x.tick(Math.min(left, 30));
    }

    /** A reply has source and destination exchanged, and the service; anything else is none. */
    private static void whatIsAReply() {
        for (int kind = 0; kind < 5; kind++) {
            DrystoneSimnet x = watched();
            x.send(0, 10, 1);
            x.tick(2);
            x.rule(1, 1, 6, 0, 0, NONE, false);
            if (kind == 1) x.address(port(2, 0), 11, 3);
            if (kind == 1) x.rule(1, 11, 6, 0, 0, NONE, false);
            int packet = kind == 2 ? x.send(2, 3, 1) : kind == 3 ? x.send(2, 1, 2) : kind == 4 ? x.send(0, 10, 1) : x.send(2, 1, 1);
            x.tick(1);
            due("of kind " + kind, x.fate(packet), kind == 0 ? FLYING : FILTERED);
        }
    }

    /** What is delivered at a router, or old there, or filtered, is not noted; what fails behind the rules is. */
    private static void whatIsNoted() {
        DrystoneSimnet x = watched();
        x.route(1, 40, 6, 11);
        x.route(1, 41, 6, 50);
        int own = x.send(0, 9, 0), noOne = x.send(0, 40, 0), noRoute = x.send(0, 41, 0), none = x.send(0, 42, 0);
        x.tick(1);
        fate("its own", x, own, DELIVERED, 1, 1);
        fate("nobody there", x, noOne, NO_ONE, 1, 1);
        fate("no port for the next address", x, noRoute, NO_ROUTE, 1, 1);
        fate("no route", x, none, NO_ROUTE, 1, 1);
        for (int from = 40; from <= 43; from++) {
            x.address(port(2, 0), from, 6);
            x.rule(1, from, 6, 0, 0, NONE, false);
            int reply = x.send(2, 1, 0);
            x.tick(1);
            due("from " + from, x.fate(reply), from < 43 ? FLYING : FILTERED);
        }
        x.address(port(2, 0), 9, 6);
        x.rule(1, 9, 6, 0, 0, NONE, false);
        int reply = x.send(2, 1, 0);
        x.tick(1);
        due("what was delivered at the router was not noted", x.fate(reply), FILTERED);
        DrystoneSimnet y = watched();
        y.pool(port(1, 1), 50, 1);
        int got = y.send(0, 10, 0);
        y.tick(2);
        due("the pool's only address", y.source(got), 50);
        y.address(port(0, 0), 3, 3);
        int without = y.send(0, 10, 0);
        y.tick(1);
        fate("without one", y, without, POOL, 1, 3);
        int back = y.send(2, 3, 0);
        y.tick(1);
        due("what failed by the pool was noted", y.fate(back), FLYING);
    }

    // ---- pools

    /** What the source of a packet from host 0, with a source of its own, is at host 2; minus the fate if it fails. */
    private static int sourceAtHost2(DrystoneSimnet x, int own) {
        x.address(port(0, 0), own, 3);
        int packet = x.send(0, 10, 0);
        x.tick(2);
        return x.fate(packet) == DELIVERED ? x.source(packet) : -x.fate(packet);
    }

    private static void sizesOfPools() {
        for (int many = 0; many <= 4; many++) for (int from : new int[] {0, 20, 63 - many, 64 - many}) {
            if (from > 63) continue;
            DrystoneSimnet x = row();
            due("none before", x.pool(port(1, 1), from, many), 0);
            String what = "of " + many + " from " + from + ", source ";
            for (int i = 0; i < 6; i++) {
                int own = i < 1 ? 1 : 2 + i, want = many == 0 ? own : i < many ? from + i : -POOL;
                due(what + i, sourceAtHost2(x, own), want);
                due(what + i + ", again", sourceAtHost2(x, own), want);
            }
            due("so many before", x.pool(port(1, 1), 0, 0), many);
        }
        DrystoneSimnet y = row();
        for (int many = 1; many <= 4; many++) {
            due("63 is its last one", y.pool(port(1, 1), 64 - many, many), many - 1);
            int below = many;
            if (many < 4) illegal("64 would be", () -> y.pool(port(1, 1), 64 - below, below + 1));
        }
        for (int i = 0; i < 4; i++) due("the addresses up to 63", sourceAtHost2(y, 3 + i), 60 + i);
    }

    /** Host 2 sends back to the addresses of a pool, and to those next to it. */
    private static void endsOfPools() {
        for (int many = 1; many <= 4; many++) for (int from : new int[] {41, 64 - many}) {
            DrystoneSimnet x = row();
            x.pool(port(1, 1), from, many);
            for (int i = 0; i < many; i++) due("got", sourceAtHost2(x, 3 + i), from + i);
            for (int to = from - 1; to <= from + many; to++) {
                if (to > 63) continue;
                boolean in = to >= from && to < from + many;
                if (in) x.address(port(0, 0), 3 + to - from, 3);
                int packet = x.send(2, to, 0);
                x.tick(2);
                fate("back to " + to, x, packet, in ? DELIVERED : NO_ROUTE, in ? 0 : 1, 10);
            }
        }
    }

    /** What a source has got is its own up to 30 ticks behind its last use; then it gets the lowest one that is free. */
    private static void ticksOfPools() {
        for (int late = 28; late <= 33; late++) {
            DrystoneSimnet x = row();
            x.pool(port(1, 1), 50, 2);
            due("the lower one", sourceAtHost2(x, 3), 50);
            due("the higher one", sourceAtHost2(x, 4), 51);
            pass(x, late - 2);
            due("its own, " + late + " ticks later", sourceAtHost2(x, 4), late <= 30 ? 51 : 50);
            DrystoneSimnet y = row();
            y.pool(port(1, 1), 50, 1);
            due("the only one", sourceAtHost2(y, 3), 50);
            pass(y, late - 2);
            due("for another one, " + late + " ticks later", sourceAtHost2(y, 4), late <= 30 ? -POOL : 50);
            DrystoneSimnet z = row();
            z.pool(port(1, 1), 50, 1);
            due("the only one", sourceAtHost2(z, 3), 50);
            pass(z, late - 2);
            int back = z.send(2, 50, 0);
            z.tick(2);
            due("back " + late + " ticks later", z.fate(back), late <= 30 ? DELIVERED : NO_ROUTE);
        }
    }

    /** Each use counts: by the source itself, and by what is sent back; one that fails is none. */
    private static void usesOfPools() {
        for (int late = 29; late <= 32; late++) {
            DrystoneSimnet x = row();
            x.pool(port(1, 1), 50, 1);
            due("got", sourceAtHost2(x, 3), 50);
            x.tick(18);
            due("used", sourceAtHost2(x, 3), 50);
            pass(x, late - 2);
            due("free " + late + " ticks behind that", sourceAtHost2(x, 4), late <= 30 ? -POOL : 50);
            DrystoneSimnet y = row();
            y.pool(port(1, 1), 50, 1);
            due("got", sourceAtHost2(y, 3), 50);
            y.tick(18);
            y.send(2, 50, 0);
            y.tick(2);
            pass(y, late - 2);
            due("free " + late + " ticks behind what was sent back", sourceAtHost2(y, 4), late <= 30 ? -POOL : 50);
            DrystoneSimnet z = row();
            z.pool(port(1, 1), 50, 1);
            due("got", sourceAtHost2(z, 3), 50);
            z.tick(10);
            due("nothing for the other one", sourceAtHost2(z, 4), -POOL);
            pass(z, late - 14);
            due("no use by that one, " + late, sourceAtHost2(z, 5), late <= 30 ? -POOL : 50);
        }
    }

    // ---- packets

    private static void sixtyPackets() {
        DrystoneSimnet x = row();
        for (int i = 0; i < 60; i++) {
            int next = i;
            outside("packet " + i + " is not there yet", () -> x.fate(next));
            outside("nor anywhere", () -> x.where(next));
            outside("nor its source", () -> x.source(next));
            due("packet " + i, x.send(0, i % 2 == 0 ? 3 : 10, i % 4), i);
            fate("packet " + i, x, i, i % 2 == 0 ? NO_ONE : FLYING, i % 2 == 0 ? 0 : NONE, i % 2 == 0 ? 1 : NONE);
            if (i % 8 == 7) x.tick(1);
        }
        full("the next one, though many have come", () -> x.send(0, 10, 0));
        outside("there is no packet 60", () -> x.fate(60));
        x.tick(2);
        fate("the last one", x, 59, DELIVERED, 2, 1);
    }

    /** With 1 call of 30 ticks for each of the 512 calls. */
    private static void allCallsOfAnObject() {
        DrystoneSimnet x = new DrystoneSimnet();
        for (int i = 1; i <= 512; i++) due("call " + i, x.tick(30), 30 * i);
    }

    /** A host on a bridge with three others: each frame becomes three, of which the first goes to host 1. */
    private static DrystoneSimnet star() {
        DrystoneSimnet x = boxes(BRIDGE, HOST, HOST, HOST, HOST);
        for (int i = 0; i < 4; i++) {
            x.cable(port(0, i), port(1 + i, 0));
            x.address(port(1 + i, 0), i, 3);
        }
        return x;
    }
    /** By sending: 60 frames are there, then 4 more are, and the next one is lost. */
    private static void frameBySending() {
        DrystoneSimnet x = star();
        for (int i = 0; i < 20; i++) x.send(1, 1, 0);
        x.tick(1);
        due("three of each", x.frames(), 60);
        for (int i = 61; i <= 66; i++) {
            int packet = x.send(1, 2, 0);
            fate("with " + i, x, packet, i <= 64 ? FLYING : LOST, NONE, NONE);
            due("frames with " + i, x.frames(), Math.min(i, 64));
        }
        x.tick(1);
        for (int i = 0; i < 20; i++) fate("packet " + i, x, i, DELIVERED, 2, 0);
        due("three of each of the four", x.frames(), 12);
        fate("there is room again", x, x.send(1, 2, 0), FLYING, NONE, NONE);
    }
    /** In a tick: of 21 frames all three copies find room, of 22 all but two; the one that arrives is not counted. */
    private static void framesInATick() {
        for (int many = 20; many <= 23; many++) for (int to = 1; to <= 3; to++) {
            DrystoneSimnet x = star();
            for (int i = 0; i < many; i++) x.send(1, to, 0);
            x.tick(1);
            due("frames of " + many, x.frames(), Math.min(3 * many, 64));
            x.tick(1);
            for (int i = 0; i < many; i++) {
                // With frame i there are many - 1 - i others still to arrive, and three of each that did.
                int there = many - 1 - i + Math.min(3 * i, 64 - (many - i)) + to - 1;
                due("of " + many + " to " + to + ", packet " + i, x.fate(i), there < 64 ? DELIVERED : LOST);
            }
        }
    }
    /** With 64 frames the first one that arrives makes room for one, that goes on from it, but not for two. */
    private static void theOneThatArrivesIsNotCounted() {
        for (int to = 1; to <= 2; to++) {
            DrystoneSimnet x = boxes(BRIDGE, HOST, HOST, HOST, BRIDGE, HOST, HOST);
            x.cable(port(0, 0), port(1, 0));
            x.cable(port(0, 1), port(4, 0));
            x.cable(port(0, 2), port(2, 0));
            x.cable(port(0, 3), port(3, 0));
            x.cable(port(4, 1), port(5, 0));
            x.cable(port(4, 2), port(6, 0));
            x.address(port(1, 0), 0, 3);
            x.address(port(5, 0), 1, 3);
            x.address(port(6, 0), 2, 3);
            for (int i = 0; i < 22; i++) x.send(1, to, 0);
            x.tick(1);
            due("64", x.frames(), 64);
            x.tick(1);
            due("two of each, but for one", x.frames(), 43);
            x.tick(1);
            for (int i = 0; i < 22; i++) due("to " + to + ", packet " + i, x.fate(i), to == 2 && i == 0 ? LOST : DELIVERED);
        }
    }

    /** A packet passes 8 routers, to a host or to a ninth router that it is for; at any other ninth one it is old. */
    private static void eightRouters() {
        for (int routers = 1; routers <= 9; routers++) {
            DrystoneSimnet x = chain(routers);
            int host = x.box(HOST), last = routers - 1;
            x.cable(port(host, 0), port(0, 0));
            x.address(port(host, 0), 62, 5);
            x.address(port(0, 0), 63, 5);
            x.gateway(host, 63);
            for (int i = 0; i < last; i++) x.route(i, 0, 0, 4 * i + 1);
            x.address(port(last, 2), 59, 6);
            x.rule(last, 0, 0, 56, 6, NONE, false);
            String what = "over " + routers + " routers";
            wayIs(x, host, 59, last, DELIVERED, what);
            wayIs(x, host, 57, last, routers == 9 ? OLD : NO_ROUTE, what);
            wayIs(x, host, 56, last, routers == 9 ? OLD : FILTERED, what);
            if (routers == 9) continue;
            int end = x.box(HOST);
            x.cable(port(last, 1), port(end, 0));
            x.address(port(last, 1), 48, 5);
            x.address(port(end, 0), 49, 5);
            due("to a host " + what, x.proved(host, 49, 2), 10 * DELIVERED + end);
            due("the last router", x.way(host, 49, 2, last), last);
            due("no other", x.way(host, 49, 2, routers), NONE);
            both("to a host " + what, x, host, end, 4);
            int packet = x.send(host, 49, 2);
            x.tick(routers);
            due("not yet", x.fate(packet), FLYING);
            x.tick(1);
            fate("to a host " + what, x, packet, DELIVERED, end, 62);
        }
    }
    /** The packet ends at the last router, and passes all others. */
    private static void wayIs(DrystoneSimnet x, int host, int dest, int last, int fate, String what) {
        due(what + " to " + dest, x.proved(host, dest, 1), 10 * fate + last);
        for (int place = 0; place < last; place++) due("way " + place, x.way(host, dest, 1, place), place);
        due("no more", x.way(host, dest, 1, last), NONE);
        due("far behind", x.way(host, dest, 1, MOST), NONE);
        outside("ahead of the first one", () -> x.way(host, dest, 1, -1));
        int packet = x.send(host, dest, 1);
        x.tick(last + 1);
        fate(what + " to " + dest, x, packet, fate, last, 62);
    }

    /** What is asked first at a router decides: back, its own, age, rules, a route, the one there, the pool. */
    private static void whatFailsFirst() {
        DrystoneSimnet x = row();
        x.pool(port(1, 1), 50, 1);
        x.send(0, 10, 0);
        x.tick(2);
        x.address(port(0, 0), 3, 3);
        int pool = x.send(0, 10, 0), nobody = x.send(0, 11, 0), noRoute = x.send(0, 40, 0);
        x.tick(1);
        fate("the pool is empty", x, pool, POOL, 1, 3);
        fate("nobody goes ahead of the pool", x, nobody, NO_ONE, 1, 3);
        fate("so does no route", x, noRoute, NO_ROUTE, 1, 3);
        x.rule(1, 3, 6, 8, 1, NONE, false);
        x.rule(1, 3, 6, 40, 6, NONE, false);
        pool = x.send(0, 10, 0);
        nobody = x.send(0, 11, 0);
        noRoute = x.send(0, 40, 0);
        int own = x.send(0, 9, 0);
        x.tick(1);
        fate("rules go ahead of the pool", x, pool, FILTERED, 1, 3);
        fate("rules go ahead of nobody", x, nobody, FILTERED, 1, 3);
        fate("rules go ahead of no route", x, noRoute, FILTERED, 1, 3);
        fate("its own goes ahead of rules", x, own, DELIVERED, 1, 3);
        x.pool(port(1, 1), 9, 1);
        due("a pool with the router's own address", sourceAtHost2(x, 1), 9);
        int back = x.send(2, 9, 0);
        x.tick(2);
        fate("back goes ahead of its own", x, back, DELIVERED, 0, 10);
        DrystoneSimnet y = row();
        y.rule(1, 10, 6, 50, 6, NONE, false);
        y.rule(1, 10, 6, 3, 6, 1, false);
        y.pool(port(1, 1), 50, 1);
        due("got", sourceAtHost2(y, 3), 50);
        int passes = y.send(2, 50, 0), ruled = y.send(2, 50, 1);
        y.tick(2);
        fate("rules see where it goes back to, not the pool's address", y, passes, DELIVERED, 0, 10);
        fate("which another rule is for", y, ruled, FILTERED, 1, 10);
    }

    // ---- bridges

    /** A note is of use up to 20 ticks later, both for who asks and for a frame, which is noted ahead of that. */
    private static void ticksOfBridges() {
        for (int late = 2; late <= 23; late++) {
            DrystoneSimnet x = pair();
            x.box(HOST);
            x.cable(port(3, 0), port(2, 3));
            due("not yet", x.noted(2, 4), NONE);
            x.send(1, 1, 0);
            due("not by sending", x.noted(2, 4), NONE);
            x.tick(1);
            due("in the same tick", x.noted(2, 4), 1);
            x.tick(late - 1);
            due("noted " + (late - 1) + " ticks ago", x.noted(2, 4), late - 1 <= 20 ? 1 : NONE);
            int packet = x.send(0, 2, 0);
            x.tick(1);
            due("noted " + late + " ticks ago", x.noted(2, 4), late <= 20 ? 1 : NONE);
            due("a frame by that", x.frames(), late <= 20 ? 1 : 2);
            due("it notes its own sender", x.noted(2, 0), 0);
            x.tick(1);
            due("it is there", x.fate(packet), DELIVERED);
            x.tick(20);
            due("21 ticks ago", x.noted(2, 0), NONE);
            due("as good as nothing", x.noted(2, 4), NONE);
        }
    }
    /** Two frames that come in one tick: the second one goes by what the first one let note. */
    private static void notesInOneTick() {
        for (int first = 0; first < 2; first++) {
            DrystoneSimnet x = pair();
            x.box(HOST);
            x.cable(port(3, 0), port(2, 3));
            x.send(first, 2 - first, 0);
            x.send(1 - first, 1 + first, 0);
            x.tick(1);
            due("the first is flooded, the second one is not", x.frames(), 3);
            due("noted", x.noted(2, 0), 0);
            due("both", x.noted(2, 4), 1);
        }
    }
    /** A frame leaves by all ports but its own, without a note; by the noted one; or by none. */
    private static void portsThatAFrameLeavesBy() {
        for (int in = 0; in < 4; in++) for (int at = 0; at < 4; at++) {
            DrystoneSimnet x = boxes(BRIDGE, HOST, HOST, HOST, HOST);
            for (int i = 0; i < 4; i++) x.cable(port(0, i), port(1 + i, 0));
            for (int i = 0; i < 4; i++) x.address(port(1 + i, 0), i, 1);
            if (in == at) continue;
            x.send(1 + at, in, 0);
            x.tick(1);
            due("flooded from " + at, x.frames(), 3);
            x.tick(1);
            int known = x.send(1 + in, at, 0);
            x.tick(1);
            due("from " + in + " to " + at, x.frames(), 1);
            x.tick(1);
            fate("from " + in + " to " + at, x, known, DELIVERED, 1 + at, in);
            int packet = x.send(1 + in, at, 0);
            x.net(port(0, at), 1);
            x.tick(1);
            due("by a port by which it cannot leave", x.frames(), 0);
            fate("from " + in + " to " + at, x, packet, LOST, NONE, NONE);
        }
    }

    /** Host 0 at bridge 1, and host 5, or router 5, at bridge 3, of the ring of the bridges 1, 2, 3 and 4; each cable has its number. */
    private static DrystoneSimnet ring(int kind, int at) {
        DrystoneSimnet x = boxes(HOST, BRIDGE, BRIDGE, BRIDGE, BRIDGE, kind);
        x.cable(port(0, 0), port(1, 0));
        x.cable(port(1, 1), port(2, 0));
        x.cable(port(2, 1), port(3, 0));
        x.cable(port(3, 1), port(4, 1));
        x.cable(port(4, 0), port(1, 2));
        x.cable(port(5, 0), port(at, 2));
        x.address(port(0, 0), 1, 3);
        x.address(port(5, 0), 2, 3);
        return x;
    }
    /** Two frames of one sender cross on a cable, so that at each end it is noted at this very cable. */
    private static void backWhereItCameFrom() {
        DrystoneSimnet x = ring(HOST, 3);
        x.turn(2);
        x.send(0, 2, 0);
        x.tick(1);
        x.send(0, 2, 0);
        x.tick(1);
        x.turn(2);
        x.turn(4);
        x.tick(2);
        due("noted at the cable's one end", x.noted(2, 0), 1);
        due("and at its other end", x.noted(3, 0), 0);
        x.tick(3);
        due("all are gone", x.frames(), 0);
        int packet = x.send(5, 1, 0);
        x.tick(1);
        due("by that cable", x.frames(), 1);
        x.tick(1);
        due("not back by it, nor by any other port", x.frames(), 0);
        due("though it was noted there", x.noted(2, port(5, 0)), 1);
        fate("lost", x, packet, LOST, NONE, NONE);
    }

    /** One copy comes over bridge 2 in the tick 3, the other one around the ring in the tick 5. */
    private static DrystoneSimnet twoCopies(int kind) {
        DrystoneSimnet x = ring(kind, 2);
        x.turn(2);
        return x;
    }
    /** What comes first counts; the other copy goes on, and is handled as ever. */
    private static void whatComesFirst() {
        for (int wrong = 0; wrong < 2; wrong++) {
            DrystoneSimnet x = twoCopies(HOST);
            int packet = x.send(0, 2, 0);
            x.tick(2);
            due("two copies", x.frames(), 2);
            x.turn(2);
            x.turn(1);
            x.address(port(5, 0), wrong == 0 ? 2 : 3, 3);
            x.tick(1);
            fate("the first copy", x, packet, wrong == 0 ? DELIVERED : WRONG, 5, 1);
            due("the other one", x.frames(), 1);
            x.address(port(5, 0), wrong == 0 ? 3 : 2, 3);
            x.tick(1);
            due("is before the host", x.frames(), 1);
            x.tick(1);
            due("and taken", x.frames(), 0);
            fate("the fate stays", x, packet, wrong == 0 ? DELIVERED : WRONG, 5, 1);
        }
        secondCopyAtARouter();
        lastCopyIsLost();
    }
    private static void secondCopyAtARouter() {
        for (int late = 29; late <= 32; late++) {
            DrystoneSimnet x = twoCopies(ROUTER);
            x.box(HOST);
            x.cable(port(5, 1), port(6, 0));
            x.address(port(5, 1), 9, 3);
            x.address(port(6, 0), 10, 3);
            x.gateway(0, 2);
            x.gateway(6, 9);
            x.watch(5, true);
            x.rule(5, 10, 6, 0, 0, NONE, false);
            x.pool(port(5, 1), 50, 1);
            x.turn(6);
            int packet = x.send(0, 10, 0);
            x.tick(2);
            x.turn(2);
            x.turn(1);
            x.tick(1);
            fate("the first copy", x, packet, NO_ONE, 5, 1);
            x.turn(6);
            x.tick(2);
            due("the second one goes on", x.frames(), 1);
            x.tick(1);
            fate("the fate stays", x, packet, NO_ONE, 5, 1);
            pass(x, late - 2);
            int reply = x.send(6, 50, 0);
            x.tick(1);
            due("it was noted and translated, " + late + " ticks ago", x.fate(reply), late <= 30 ? FLYING : FILTERED);
        }
    }
    private static void lastCopyIsLost() {
        DrystoneSimnet x = twoCopies(HOST);
        int packet = x.send(0, 2, 0);
        x.tick(2);
        x.turn(2);
        x.turn(1);
        x.turn(5);
        x.tick(1);
        fate("one copy is lost", x, packet, FLYING, NONE, NONE);
        x.tick(1);
        fate("the last one is lost", x, packet, LOST, NONE, NONE);
        due("no frame", x.frames(), 0);
        x.turn(5);
        x.tick(1);
        fate("lost it stays", x, packet, LOST, NONE, NONE);
    }

    // ---- proofs

    private static void both(String what, DrystoneSimnet x, int host, int to, int want) {
        due(what + ", by sets", x.reach(host, to), want);
        due(what + ", by packets", x.reachAnew(host, to), want);
    }

    /** A router may have three addresses for headers, each of them once, at the lowest and the highest there are. */
    private static void headersOfARouter() {
        DrystoneSimnet x = boxes(HOST, ROUTER);
        x.cable(port(0, 0), port(1, 0));
        x.address(port(0, 0), 30, 6);
        x.gateway(0, 0);
        both("none", x, 0, 1, 0);
        x.address(port(1, 0), 0, 6);
        both("one", x, 0, 1, 4);
        x.address(port(1, 1), 63, 6);
        both("two", x, 0, 1, 8);
        x.address(port(1, 2), 63, 1);
        both("two, of which one is there twice", x, 0, 1, 8);
        x.address(port(1, 2), 62, 1);
        both("three", x, 0, 1, 12);
        x.rule(1, 0, 0, 0, 0, NONE, false);
        both("rules do not count for them", x, 0, 1, 12);
        both("nothing to itself", x, 0, 0, 0);
        x.address(port(1, 1), 30, 6);
        both("but not with the host's own address", x, 0, 1, 8);
        for (int dest = 0; dest < 64; dest += 63) for (int service = 0; service < 4; service += 3) {
            due("header " + dest + ", " + service, x.proved(0, dest, service), dest == 0 ? 10 * DELIVERED + 1 : 10 * FILTERED + 1);
            due("no router is passed", x.way(0, dest, service, 0), NONE);
        }
    }

    /** Headers go apart at each router of a tree, and come together again in its ring. */
    private static void headersThatGoApart() {
        DrystoneSimnet x = boxes(HOST, ROUTER, ROUTER, ROUTER, ROUTER, ROUTER, ROUTER, ROUTER, HOST, HOST);
        int[] ends = {port(0, 0), port(1, 0), port(1, 1), port(2, 0), port(1, 2), port(3, 0), port(2, 1), port(4, 0), port(2, 2), port(5, 0),
            port(3, 1), port(6, 0), port(3, 2), port(7, 0), port(4, 1), port(8, 0), port(7, 1), port(9, 0)};
        for (int i = 0; i < ends.length; i += 2) {
            x.cable(ends[i], ends[i + 1]);
            x.address(ends[i], 4 * (i / 2) + 1, 4);
            x.address(ends[i + 1], 4 * (i / 2) + 2, 4);
        }
        x.gateway(0, 2);
        int[] own = {0, 3, 3, 3, 2, 1, 1, 2, 1, 1};
        for (int to = 0; to < 10; to++) both("to " + to, x, 0, to, 4 * own[to]);
        x.rule(2, 0, 0, 0, 0, 1, false);
        for (int to = 0; to < 10; to++) {
            boolean isBehind = to == 4 || to == 5 || to == 8;
            both("filtered, to " + to, x, 0, to, isBehind ? 3 * own[to] : 4 * own[to]);
        }
        x.cable(port(5, 1), port(6, 1));
        x.address(port(5, 1), 61, 4);
        x.address(port(6, 1), 62, 4);
        x.turn(1);
        both("around the ring", x, 0, 5, 8);
        both("to its other side, but for the end of the broken cable", x, 0, 2, 8);
        due("the way around", x.way(0, 14, 0, 3), 5);
    }

    /** Settled is what routers come to by 30 ticks at most: no matter how many ticks have passed, or what was learnt before. */
    private static void settledNets() {
        for (int ticks = 0; ticks <= 12; ticks++) {
            DrystoneSimnet x = chain(8);
            x.box(HOST);
            x.cable(port(8, 0), port(0, 0));
            x.address(port(0, 0), 62, 5);
            x.address(port(8, 0), 63, 5);
            x.gateway(8, 62);
            x.address(port(7, 1), 40, 6);
            pass(x, ticks);
            due("7 away, after " + ticks, x.proved(8, 40, 0), 10 * DELIVERED + 7);
            due("learnt by " + ticks, x.learnt(0, 40, 6), ticks < 7 ? NONE : 70000 + 100 + port(1, 0));
            x.turn(6);
            due("broken at the end: none of it is left", x.proved(8, 40, 0), 10 * NO_ROUTE);
            both("broken at the end", x, 8, 7, 0);
            due("what was learnt stays learnt", x.learnt(0, 40, 6), ticks < 7 ? NONE : 70000 + 100 + port(1, 0));
            x.turn(6);
            x.address(port(7, 1), 41, 6);
            due("another one", x.proved(8, 41, 0), 10 * DELIVERED + 7);
            due("in its place", x.proved(8, 40, 0), 10 * NO_ROUTE);
            both("with its link", x, 8, 7, 8);
        }
    }

    /** A told route may be a ring for a packet alone; it ends by its age, whatever rules are behind that. */
    private static void ringsInProofs() {
        for (int inRing = 2; inRing <= 8; inRing++) {
            DrystoneSimnet x = chain(inRing);
            int host = x.box(HOST);
            x.cable(port(host, 0), port(0, 0));
            x.address(port(host, 0), 63, 5);
            x.address(port(0, 0), 62, 5);
            x.gateway(host, 62);
            x.cable(port(inRing - 1, 2), port(0, 2));
            x.address(port(inRing - 1, 2), 56, 5);
            x.address(port(0, 2), 57, 5);
            for (int i = 0; i < inRing; i++) x.route(i, 48, 3, i == inRing - 1 ? 57 : 4 * i + 1);
            int last = 8 % inRing;
            due("around " + inRing, x.proved(host, 50, 0), 10 * OLD + last);
            for (int place = 0; place < 8; place++) due("way " + place, x.way(host, 50, 0, place), place % inRing);
            due("no more", x.way(host, 50, 0, 8), NONE);
            both("nobody gets it", x, host, last, x.reachAnew(host, last));
            int packet = x.send(host, 50, 0);
            x.tick(8);
            due("flying", x.fate(packet), FLYING);
            x.tick(1);
            fate("old", x, packet, OLD, last, 63);
        }
    }

    public static void main(String[] args) {
        nothingIsThereAtFirst();
        tenBoxes();
        portsOfKinds();
        sixteenCables();
        ringsOfBridges();
        rowsOfBridges();
        lowestBridgeThenLowestCable();
        netsAndTrunks();
        framesAndTags();
        tagsAtHostsAndRouters();
        farthestSight();
        prefixesOfHosts();
        gateways();
        prefixesOfRoutes();
        sixRoutes();
        lengthsAndKinds();
        lowestPorts();
        lowestOneAtAnAddress();
        distances();
        prefixesThatAreLearnt();
        prefixesOfLearntRoutes();
        learntRoutesLeadNoOthers();
        leastIsLearnt();
        prefixesOfRules();
        eightRules();
        servicesOfRules();
        ticksOfNotes();
        whatIsAReply();
        whatIsNoted();
        sizesOfPools();
        endsOfPools();
        ticksOfPools();
        usesOfPools();
        sixtyPackets();
        allCallsOfAnObject();
        frameBySending();
        framesInATick();
        theOneThatArrivesIsNotCounted();
        eightRouters();
        whatFailsFirst();
        ticksOfBridges();
        notesInOneTick();
        portsThatAFrameLeavesBy();
        backWhereItCameFrom();
        whatComesFirst();
        headersOfARouter();
        headersThatGoApart();
        settledNets();
        ringsInProofs();
        Checks.end("BoundsTest");
    }
}

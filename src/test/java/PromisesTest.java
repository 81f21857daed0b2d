/** Each promise of the document, by ordinary inputs, by its edges and by wrong inputs. */
public final class PromisesTest extends Nets {
    private static void promise1NewObject() {
        DrystoneSimnet x = new DrystoneSimnet();
        due("frames of a new net", x.frames(), 0);
        outside("turn", () -> x.turn(0) ? 1 : 0);
        outside("fate", () -> x.fate(0));
        outside("reach", () -> x.reach(0, 0));
        due("the first tick", x.tick(1), 1);
        due("the first box", x.box(HOST), 0);
        DrystoneSimnet y = new DrystoneSimnet();
        due("the first box of another one", y.box(HOST), 0);
        due("its first tick", y.tick(2), 2);
        due("constants", DrystoneSimnet.NONE == -1 && DrystoneSimnet.HOST == 0 && DrystoneSimnet.BRIDGE == 1
            && DrystoneSimnet.ROUTER == 2 && DrystoneSimnet.TRUNK == 4 && DrystoneSimnet.FLYING == 0 && DrystoneSimnet.DELIVERED == 1
            && DrystoneSimnet.NO_ROUTE == 2 && DrystoneSimnet.NO_ONE == 3 && DrystoneSimnet.FILTERED == 4 && DrystoneSimnet.OLD == 5
            && DrystoneSimnet.POOL == 6 && DrystoneSimnet.WRONG == 7 && DrystoneSimnet.LOST == 8, true);
    }

    private static void promise2Box() {
        DrystoneSimnet x = new DrystoneSimnet();
        for (int kind : new int[] {-1, 3, LEAST, MOST}) illegal("box " + kind, () -> x.box(kind));
        for (int i = 0; i < 10; i++) due("box " + i, x.box(i % 3), i);
        full("the eleventh", () -> x.box(HOST));
        illegal("the eleventh, of no kind", () -> x.box(3));
        outside("there is none", () -> x.watch(10, true) ? 1 : 0);
        due("the tenth is there", x.gateway(9, NONE), NONE);
    }

    private static void promise3Cable() {
        DrystoneSimnet x = boxes(HOST, BRIDGE, ROUTER);
        int[] none = {-1, 1, 2, 3, 11, 12, 16, LEAST, MOST};
        for (int p : none) {
            outside("cable from " + p, () -> x.cable(p, 4));
            outside("cable to " + p, () -> x.cable(4, p));
        }
        outside("no port goes ahead of one box", () -> x.cable(0, 1));
        illegal("one box", () -> x.cable(4, 5));
        illegal("one port", () -> x.cable(0, 0));
        due("the first", x.cable(0, 7), 0);
        due("the second", x.cable(10, 4), 1);
        full("the one has a cable", () -> x.cable(0, 8));
        full("the other has", () -> x.cable(8, 7));
        illegal("one box goes ahead of having one", () -> x.cable(7, 6));
        due("the third", x.cable(8, 5), 2);
        DrystoneSimnet y = boxes(BRIDGE, BRIDGE, BRIDGE, BRIDGE, BRIDGE, BRIDGE, BRIDGE, BRIDGE, BRIDGE, BRIDGE);
        for (int i = 0; i < 16; i++) due("cable " + i, y.cable(port(i / 4, i % 4), port(9 - i / 4, i % 4)), i);
        full("the seventeenth", () -> y.cable(port(4, 0), port(5, 0)));
        illegal("the seventeenth, of one box", () -> y.cable(port(4, 0), port(4, 1)));
        outside("the seventeenth, of no port", () -> y.cable(port(4, 0), 40));
    }

    private static void promise4Turn() {
        DrystoneSimnet x = pair();
        for (int c : new int[] {-1, 2, LEAST, MOST}) outside("turn " + c, () -> x.turn(c) ? 1 : 0);
        int first = x.send(0, 2, 0);
        due("breaks", x.turn(0), true);
        due("the frame is still there", x.frames(), 1);
        fate("not yet lost", x, first, FLYING, NONE, NONE);
        x.tick(1);
        due("lost by arriving", x.frames(), 0);
        fate("lost", x, first, LOST, NONE, NONE);
        due("nothing is noted of it", x.noted(2, 0), NONE);
        int second = x.send(0, 2, 0);
        fate("nobody is seen", x, second, NO_ONE, 0, 1);
        due("mends", x.turn(0), false);
        int third = x.send(0, 2, 0);
        due("breaks again", x.turn(0), true);
        due("mends again", x.turn(0), false);
        x.tick(2);
        fate("mended in time", x, third, DELIVERED, 1, 1);
        int fourth = x.send(0, 2, 0);
        x.tick(1);
        x.turn(1);
        x.tick(1);
        fate("lost on the other cable", x, fourth, LOST, NONE, NONE);
    }

    private static void promise5IsBlocked() {
        DrystoneSimnet x = boxes(HOST, BRIDGE, BRIDGE, BRIDGE, BRIDGE, ROUTER);
        x.cable(port(4, 0), port(3, 0)); // 0
        x.cable(port(4, 1), port(2, 0)); // 1
        x.cable(port(3, 1), port(1, 0)); // 2
        x.cable(port(2, 1), port(1, 1)); // 3
        x.cable(port(4, 2), port(0, 0)); // 4
        for (int c : new int[] {-1, 5, LEAST, MOST}) outside("isBlocked " + c, () -> x.isBlocked(c) ? 1 : 0);
        blocked("a ring: bridge 4 goes by the lower bridge", x, 0);
        due("a second cable to one bridge", x.cable(port(4, 3), port(2, 2)), 5);
        blocked("the lower cable stays", x, 0, 5);
        x.turn(1);
        blocked("the higher one in its place; broken ones are not blocked", x, 0);
        x.turn(5);
        blocked("the way by the higher bridge", x);
        x.turn(1);
        x.turn(3);
        blocked("a row without its end is no ring", x);
        x.turn(3);
        x.turn(2);
        blocked("2 is now nearer to the root", x);
        x.turn(2);
        x.turn(5);
        blocked("as before", x, 0, 5);
        due("a cable of a router", x.cable(port(5, 0), port(1, 2)), 6);
        due("another one", x.cable(port(5, 1), port(3, 2)), 7);
        blocked("a ring through a router is none", x, 0, 5);
        DrystoneSimnet y = boxes(BRIDGE, BRIDGE, BRIDGE, BRIDGE);
        y.cable(port(1, 0), port(2, 0)); // 0
        y.cable(port(2, 1), port(3, 0)); // 1
        y.cable(port(3, 1), port(1, 1)); // 2
        blocked("the lowest of those that hang together is the root", y, 1);
        y.cable(port(0, 0), port(3, 2)); // 3
        blocked("a lower one takes its place", y, 0);
        y.cable(port(0, 1), port(1, 2)); // 4
        blocked("2 goes by 1, not by 3", y, 1, 2);
        y.turn(0);
        blocked("then by 3", y, 2);
    }
    private static void blocked(String what, DrystoneSimnet x, int... those) {
        for (int c = 0; c < 16; c++) {
            boolean want = false;
            for (int that : those) want |= that == c;
            try {
                due(what + ": " + c, x.isBlocked(c), want);
            } catch (IndexOutOfBoundsException e) {
                due(what + ": there is no cable " + c, want, false);
            }
        }
    }

    private static void promise6Net() {
        DrystoneSimnet x = boxes(HOST, HOST, BRIDGE, BRIDGE, ROUTER);
        for (int p : new int[] {-1, 1, 19, 20, LEAST, MOST}) outside("net of " + p, () -> x.net(p, 0));
        for (int n : new int[] {-1, 5, LEAST, MOST}) illegal("net " + n, () -> x.net(8, n));
        outside("no port goes ahead of no net", () -> x.net(1, 9));
        illegal("of a host", () -> x.net(0, 0));
        illegal("of a router", () -> x.net(16, 0));
        for (int n = 0; n <= 4; n++) due("the net before " + n, x.net(9, n), n == 0 ? 0 : n - 1);
        due("a trunk before", x.net(9, 0), TRUNK);
        x.cable(port(0, 0), port(2, 0));
        x.cable(port(1, 0), port(3, 0));
        x.cable(port(2, 1), port(3, 1));
        due("net 0 at once", x.sees(0, 4), true);
        x.net(8, 2);
        due("the nets differ", x.sees(0, 4), false);
        x.net(9, TRUNK);
        due("a tag that comes by a net's port is lost", x.sees(0, 4), false);
        x.net(13, 2);
        due("unless it is of that net", x.sees(0, 4), false);
        x.net(12, 2);
        due("net 2 from a trunk to a port of 2", x.sees(0, 4), true);
        due("but untagged into the trunk it is in net 0", x.sees(4, 0), false);
        x.net(13, TRUNK);
        due("by a trunk", x.sees(0, 4), true);
        due("and back", x.sees(4, 0), true);
        x.net(12, 3);
        due("to another net", x.sees(0, 4), false);
    }

    private static void promise7Sees() {
        DrystoneSimnet x = boxes(HOST, HOST, BRIDGE, ROUTER, BRIDGE);
        for (int p : new int[] {-1, 1, 15, 20, LEAST, MOST}) {
            outside("sees from " + p, () -> x.sees(p, 0) ? 1 : 0);
            outside("sees " + p, () -> x.sees(0, p) ? 1 : 0);
        }
        outside("no port goes ahead of the same", () -> x.sees(1, 1) ? 1 : 0);
        illegal("itself", () -> x.sees(0, 0) ? 1 : 0);
        illegal("from a bridge", () -> x.sees(8, 0) ? 1 : 0);
        illegal("a bridge", () -> x.sees(0, 8) ? 1 : 0);
        due("without cables", x.sees(0, 4), false);
        x.cable(port(0, 0), port(2, 0));
        x.cable(port(3, 0), port(2, 1));
        x.cable(port(3, 1), port(2, 2));
        due("by a bridge", x.sees(0, 12), true);
        due("the other port", x.sees(0, 13), true);
        due("one without a cable", x.sees(0, 14), false);
        due("a router's port its other one", x.sees(12, 13), true);
        x.cable(port(3, 2), port(1, 0));
        due("straight", x.sees(4, 14), true);
        due("straight back", x.sees(14, 4), true);
        due("not through a router", x.sees(0, 4), false);
        x.net(9, TRUNK);
        due("hosts and routers take no tag", x.sees(0, 12), false);
        due("but what they send into a trunk is in net 0", x.sees(12, 0), true);
        x.net(8, 1);
        x.net(10, 1);
        due("not in net 1", x.sees(12, 0), false);
        due("net 1", x.sees(0, 13), true);
        x.cable(port(2, 3), port(4, 0));
        due("a blind end", x.sees(0, 13), true);
        x.turn(0);
        due("broken", x.sees(0, 13), false);
        x.turn(0);
        due("mended", x.sees(0, 13), true);
        DrystoneSimnet y = boxes(BRIDGE, BRIDGE, HOST, HOST);
        y.cable(port(0, 0), port(1, 0));
        y.cable(port(0, 1), port(1, 1));
        y.cable(port(0, 2), port(2, 0));
        y.cable(port(1, 2), port(3, 0));
        y.net(port(0, 0), 1);
        due("the tree does not look at nets: no way by the blocked cable", y.sees(8, 12), false);
        y.turn(0);
        due("by the other one when that is broken", y.sees(8, 12), true);
    }

    private static void promise8Address() {
        DrystoneSimnet x = boxes(HOST, BRIDGE, ROUTER);
        for (int p : new int[] {-1, 1, 11, 12, LEAST, MOST}) outside("address of " + p, () -> x.address(p, 0, 1));
        outside("no port goes ahead of no address", () -> x.address(1, 64, 0));
        illegal("of a bridge", () -> x.address(4, 0, 1));
        for (int a : new int[] {-1, 64, LEAST, MOST}) illegal("address " + a, () -> x.address(0, a, 1));
        for (int l : new int[] {0, 7, -1, LEAST, MOST}) illegal("length " + l, () -> x.address(0, 0, l));
        due("none before", x.address(0, 63, 6), NONE);
        due("63 before", x.address(0, 0, 1), 63);
        due("0 before", x.address(0, 5, 1), 0);
        due("a router's", x.address(10, 7, 3), NONE);
        due("its other port has none", x.address(9, 8, 3), NONE);
        DrystoneSimnet y = pair();
        int packet = y.send(0, 2, 0);
        y.address(port(1, 0), 3, 3);
        y.tick(2);
        fate("another address in its place", y, packet, WRONG, 1, 1);
        int next = y.send(0, 3, 0);
        y.address(port(0, 0), 7, 3);
        y.tick(2);
        fate("the source stays the frame's", y, next, DELIVERED, 1, 1);
        y.address(port(0, 0), 7, 6);
        fate("behind the prefix there is no gateway", y, y.send(0, 3, 0), NO_ROUTE, 0, 7);
        y.address(port(0, 0), 3, 3);
        fate("of two with an address the lowest that is seen, not itself", y, y.send(1, 3, 0), FLYING, NONE, NONE);
    }

    private static void promise9Gateway() {
        DrystoneSimnet x = boxes(HOST, BRIDGE, ROUTER);
        for (int b : new int[] {-1, 3, LEAST, MOST}) outside("gateway of " + b, () -> x.gateway(b, 0));
        outside("no box goes ahead of no address", () -> x.gateway(3, 64));
        illegal("of a bridge", () -> x.gateway(1, 0));
        illegal("of a router", () -> x.gateway(2, 0));
        for (int a : new int[] {-2, 64, LEAST, MOST}) illegal("gateway " + a, () -> x.gateway(0, a));
        due("none before", x.gateway(0, 63), NONE);
        due("63 before", x.gateway(0, 0), 63);
        due("0 before", x.gateway(0, NONE), 0);
        due("none again", x.gateway(0, NONE), NONE);
        DrystoneSimnet y = row();
        fate("by the gateway", y, y.send(0, 10, 0), FLYING, NONE, NONE);
        y.gateway(0, 3);
        fate("nobody is at the gateway", y, y.send(0, 10, 0), NO_ONE, 0, 1);
        y.gateway(0, NONE);
        fate("no gateway", y, y.send(0, 10, 0), NO_ROUTE, 0, 1);
        fate("none is needed in the prefix", y, y.send(0, 2, 0), FLYING, NONE, NONE);
        DrystoneSimnet z = pair();
        z.gateway(0, 2);
        int packet = z.send(0, 33, 1);
        z.tick(2);
        fate("a host as the gateway takes what is not for it", z, packet, WRONG, 1, 1);
    }

    private static void promise10Route() {
        DrystoneSimnet x = boxes(HOST, BRIDGE, ROUTER);
        for (int b : new int[] {-1, 3, LEAST, MOST}) outside("route of " + b, () -> x.route(b, 0, 0, 0));
        outside("no box goes ahead of no address", () -> x.route(3, 64, 0, 0));
        illegal("of a host", () -> x.route(0, 0, 0, 0));
        illegal("of a bridge", () -> x.route(1, 0, 0, 0));
        for (int v : new int[] {-1, 64, LEAST, MOST}) {
            illegal("address " + v, () -> x.route(2, v, 0, 0));
            illegal("next " + v, () -> x.route(2, 0, 0, v));
        }
        for (int l : new int[] {-1, 7, LEAST, MOST}) illegal("length " + l, () -> x.route(2, 0, l, 0));
        for (int i = 1; i <= 6; i++) due("route " + i, x.route(2, 63, i == 1 ? 0 : 6, 63), i);
        full("the seventh", () -> x.route(2, 0, 0, 0));
        illegal("the seventh, of no length", () -> x.route(2, 0, 7, 0));
        tellingRoutes();
        longestRoute();
    }
    private static void tellingRoutes() {
        DrystoneSimnet x = row();
        x.gateway(0, 2);
        due("no route", x.proved(0, 40, 0), 10 * NO_ROUTE + 1);
        x.route(1, 40, 6, 33);
        due("a next address that is not in a prefix of its ports: no way", x.proved(0, 40, 0), 10 * NO_ROUTE + 1);
        x.route(1, 40, 6, 10);
        due("the first of several counts", x.proved(0, 40, 0), 10 * NO_ROUTE + 1);
        x.route(1, 41, 6, 11);
        due("nobody at the next address", x.proved(0, 41, 0), 10 * NO_ONE + 1);
        x.route(1, 42, 5, 10);
        due("the next port takes it", x.proved(0, 42, 0), 10 * WRONG + 2);
        due("a length of 5 takes two", x.proved(0, 43, 0), 10 * WRONG + 2);
        due("and not more", x.proved(0, 44, 0), 10 * NO_ROUTE + 1);
        x.route(1, 0, 0, 10);
        due("0 is for all", x.proved(0, 44, 0), 10 * WRONG + 2);
        due("a connected one is longer", x.proved(0, 11, 0), 10 * NO_ONE + 1);
        due("a told one of the length is longer than the other", x.proved(0, 40, 0), 10 * NO_ROUTE + 1);
        x.route(1, 11, 3, 10);
        due("a connected one goes first", x.proved(0, 11, 0), 10 * NO_ONE + 1);
        x.address(port(1, 1), 9, 2);
        x.address(port(2, 0), 10, 2);
        due("a told one that is longer goes first then", x.proved(0, 11, 0), 10 * WRONG + 2);
    }
    private static void longestRoute() {
        DrystoneSimnet x = boxes(HOST, ROUTER, HOST, HOST);
        x.cable(port(0, 0), port(1, 0));
        x.cable(port(1, 1), port(2, 0));
        x.cable(port(1, 2), port(3, 0));
        x.address(port(0, 0), 1, 3);
        x.gateway(0, 2);
        x.address(port(1, 0), 2, 3);
        x.address(port(1, 1), 33, 2);
        x.address(port(1, 2), 34, 2);
        x.address(port(2, 0), 40, 2);
        x.address(port(3, 0), 41, 2);
        due("of two ports with a prefix the lowest", x.proved(0, 40, 0), 10 * DELIVERED + 2);
        due("only that one", x.proved(0, 41, 0), 10 * NO_ONE + 1);
        x.route(1, 50, 6, 41);
        due("the next address likewise", x.proved(0, 50, 0), 10 * NO_ONE + 1);
        x.address(port(1, 2), 34, 3);
        due("the longer one", x.proved(0, 41, 0), 10 * NO_ONE + 1);
        x.address(port(1, 2), 42, 3);
        due("the longer one has it", x.proved(0, 41, 0), 10 * DELIVERED + 3);
        due("so the lower port has lost it", x.proved(0, 40, 0), 10 * NO_ONE + 1);
        due("but the next address goes by the lowest port in whose prefix it is", x.proved(0, 50, 0), 10 * NO_ONE + 1);
    }

    private static void promise11Rule() {
        DrystoneSimnet x = boxes(HOST, BRIDGE, ROUTER);
        for (int b : new int[] {-1, 3, LEAST, MOST}) outside("rule of " + b, () -> x.rule(b, 0, 0, 0, 0, 0, true));
        outside("no box goes ahead of no source", () -> x.rule(3, 64, 0, 0, 0, 0, true));
        illegal("of a host", () -> x.rule(0, 0, 0, 0, 0, 0, true));
        illegal("of a bridge", () -> x.rule(1, 0, 0, 0, 0, 0, true));
        for (int v : new int[] {-1, 64, LEAST, MOST}) {
            illegal("source " + v, () -> x.rule(2, v, 0, 0, 0, 0, true));
            illegal("dest " + v, () -> x.rule(2, 0, 0, v, 0, 0, true));
        }
        for (int l : new int[] {-1, 7, LEAST, MOST}) {
            illegal("length " + l, () -> x.rule(2, 0, l, 0, 0, 0, true));
            illegal("far " + l, () -> x.rule(2, 0, 0, 0, l, 0, true));
        }
        for (int s : new int[] {-2, 4, LEAST, MOST}) illegal("service " + s, () -> x.rule(2, 0, 0, 0, 0, s, true));
        for (int i = 1; i <= 8; i++) due("rule " + i, x.rule(2, 63, 6, 63, 6, i % 5 - 1, i % 2 == 0), i);
        full("the ninth", () -> x.rule(2, 0, 0, 0, 0, 0, true));
        illegal("the ninth, of no service", () -> x.rule(2, 0, 0, 0, 0, 4, true));
        DrystoneSimnet y = row();
        due("without rules", y.proved(0, 10, 3), 10 * DELIVERED + 2);
        y.rule(1, 1, 6, 10, 6, 2, true);
        y.rule(1, 0, 4, 10, 6, 1, false);
        y.rule(1, 0, 3, 8, 3, 2, false);
        y.rule(1, 8, 3, 0, 0, NONE, false);
        due("no rule fits", y.proved(0, 10, 0), 10 * DELIVERED + 2);
        due("the second one", y.proved(0, 10, 1), 10 * FILTERED + 1);
        due("the first one goes first", y.proved(0, 10, 2), 10 * DELIVERED + 2);
        due("the third one, by its prefixes", y.proved(0, 12, 2), 10 * FILTERED + 1);
        due("not for another destination", y.proved(0, 17, 2), 10 * NO_ROUTE + 1);
        due("all services", y.proved(2, 1, 3), 10 * FILTERED + 1);
        due("a router's own address goes ahead of rules", y.proved(2, 9, 3), 10 * DELIVERED + 1);
        int packet = y.send(0, 10, 1);
        y.tick(1);
        fate("filtered", y, packet, FILTERED, 1, 1);
        int other = y.send(0, 10, 2);
        y.tick(2);
        fate("passed", y, other, DELIVERED, 2, 1);
        y.rule(1, 0, 0, 0, 0, NONE, false);
        due("nothing passes", y.proved(0, 10, 0), 10 * FILTERED + 1);
    }

    /** As row(), and the router lets nothing come from host 2. */
    private static DrystoneSimnet guarded() {
        DrystoneSimnet x = row();
        x.rule(1, 10, 6, 0, 0, NONE, false);
        return x;
    }
    private static int reply(DrystoneSimnet x, int service) {
        int packet = x.send(2, 1, service);
        x.tick(2);
        return x.fate(packet);
    }
    private static void promise12Watch() {
        DrystoneSimnet x = guarded();
        for (int b : new int[] {-1, 3, LEAST, MOST}) outside("watch of " + b, () -> x.watch(b, true) ? 1 : 0);
        illegal("of a host", () -> x.watch(0, true) ? 1 : 0);
        illegal("of a bridge", () -> boxes(BRIDGE).watch(0, true) ? 1 : 0);
        x.send(0, 10, 1);
        x.tick(2);
        due("it did not", x.watch(1, true), false);
        due("what passed before is not noted", reply(x, 1), FILTERED);
        x.send(0, 10, 1);
        x.tick(2);
        due("a reply passes", reply(x, 1), DELIVERED);
        due("of this service alone", reply(x, 2), FILTERED);
        due("it did", x.watch(1, true), true);
        due("but what it noted is forgotten", reply(x, 1), FILTERED);
        x.send(0, 10, 1);
        x.tick(1);
        x.tick(29);
        due("30 ticks ago", reply(x, 1), DELIVERED);
        due("31 ticks ago and more", reply(x, 1), FILTERED);
        x.send(0, 10, 1);
        x.tick(2);
        due("noted anew", reply(x, 1), DELIVERED);
        x.send(0, 10, 1);
        x.tick(1);
        due("it did so again", x.watch(1, true), true);
        x.tick(1);
        due("what was noted in the tick just passed is forgotten, too", reply(x, 1), FILTERED);
        x.send(0, 10, 1);
        x.tick(1);
        due("and the first one behind that is not", reply(x, 1), DELIVERED);
        due("it did likewise", x.watch(1, false), true);
        due("not watching", reply(x, 1), FILTERED);
        due("it did not watch", x.watch(1, true), false);
        due("nor remembers it", reply(x, 1), FILTERED);
        noteAtTheEdge();
        notesOfReplies();
    }
    private static void noteAtTheEdge() {
        for (int late = 29; late <= 31; late++) {
            DrystoneSimnet x = guarded();
            x.watch(1, true);
            x.send(0, 10, 3);
            x.tick(1);
            if (late > 30) x.tick(late - 30);
            x.tick(Math.min(late, 30) - 1);
            due("a note " + late + " ticks ago", reply(x, 3), late <= 30 ? DELIVERED : FILTERED);
        }
    }
    private static void notesOfReplies() {
        DrystoneSimnet x = guarded();
        x.rule(1, 1, 6, 12, 6, NONE, false);
        x.watch(1, true);
        x.route(1, 12, 6, 33);
        int passes = x.send(0, 13, 0);
        int filtered = x.send(0, 12, 0);
        x.tick(1);
        fate("fails behind the rules", x, passes, NO_ONE, 1, 1);
        fate("filtered", x, filtered, FILTERED, 1, 1);
        x.address(port(2, 0), 13, 3);
        x.rule(1, 13, 6, 0, 0, NONE, false);
        due("what failed behind the rules was noted", reply(x, 0), DELIVERED);
        x.address(port(2, 0), 12, 3);
        x.rule(1, 12, 6, 0, 0, NONE, false);
        due("what was filtered was not", reply(x, 0), FILTERED);
        DrystoneSimnet y = guarded();
        y.watch(1, true);
        y.send(0, 10, 0);
        y.tick(25);
        due("a reply", reply(y, 0), DELIVERED);
        y.tick(20);
        y.rule(1, 0, 0, 0, 0, NONE, false);
        int again = y.send(0, 10, 0);
        y.tick(2);
        due("a reply is noted, too: its reply passes", y.fate(again), DELIVERED);
    }

    private static int sentFrom(DrystoneSimnet x, int host, int ticks) {
        int packet = x.send(host, 34, 0);
        x.tick(ticks);
        return x.fate(packet) == DELIVERED ? x.source(packet) : -10 * x.fate(packet) - x.where(packet);
    }
    private static void promise13Pool() {
        DrystoneSimnet x = boxes(HOST, BRIDGE, ROUTER);
        for (int p : new int[] {-1, 1, 11, 12, LEAST, MOST}) outside("pool of " + p, () -> x.pool(p, 0, 1));
        outside("no port goes ahead of no address", () -> x.pool(11, 64, 1));
        illegal("of a host", () -> x.pool(0, 0, 1));
        illegal("of a bridge", () -> x.pool(4, 0, 1));
        for (int f : new int[] {-1, 64, LEAST, MOST}) illegal("from " + f, () -> x.pool(8, f, 0));
        for (int m : new int[] {-1, 5, LEAST, MOST}) illegal("many " + m, () -> x.pool(8, 0, m));
        illegal("63 and 64", () -> x.pool(8, 63, 2));
        illegal("61 to 64", () -> x.pool(8, 61, 4));
        due("none before", x.pool(8, 60, 4), 0);
        due("four before", x.pool(8, 63, 1), 4);
        due("one before", x.pool(8, 63, 0), 1);
        due("none then", x.pool(8, 0, 0), 0);
        due("each port has its own", x.pool(10, 5, 3), 0);
        poolGives();
        poolAtTheEdge();
        poolTakesBack();
        lowestPoolIsAsked();
    }
    private static void poolGives() {
        DrystoneSimnet x = shared();
        due("without a pool", sentFrom(x, 0, 3), 1);
        x.pool(port(1, 1), 50, 2);
        due("the lowest address", sentFrom(x, 4, 3), 50);
        due("the next one", sentFrom(x, 0, 3), 51);
        due("that which it has got", sentFrom(x, 4, 3), 50);
        x.address(port(0, 0), 4, 2);
        due("without any", sentFrom(x, 0, 3), -10 * POOL - 1);
        due("its source then", x.source(4), 4);
        x.pool(port(1, 1), 50, 1);
        due("a new pool has none used", sentFrom(x, 0, 3), 50);
        due("the other has none", sentFrom(x, 4, 3), -10 * POOL - 1);
        x.pool(port(1, 1), 50, 0);
        due("no pool", sentFrom(x, 4, 3), 3);
        x.pool(port(1, 0), 60, 1);
        due("a pool of another port", sentFrom(x, 4, 3), 3);
        DrystoneSimnet y = shared();
        y.pool(port(1, 1), 50, 1);
        int nobody = y.send(0, 35, 0);
        y.tick(2);
        fate("nobody there: nothing is got", y, nobody, NO_ONE, 1, 1);
        due("still free", sentFrom(y, 4, 3), 50);
    }
    private static void poolAtTheEdge() {
        for (int late = 29; late <= 31; late++) {
            DrystoneSimnet x = shared();
            x.pool(port(1, 1), 50, 1);
            due("got", sentFrom(x, 0, 3), 50);
            x.tick(late - 3);
            due("got " + late + " ticks ago", sentFrom(x, 4, 3), late <= 30 ? -10 * POOL - 1 : 50);
            DrystoneSimnet y = shared();
            y.pool(port(1, 1), 50, 1);
            due("got", sentFrom(y, 0, 3), 50);
            y.tick(late - 2);
            int back = y.send(2, 50, 0);
            y.tick(3);
            due("back " + late + " ticks later", y.fate(back), late <= 30 ? DELIVERED : NO_ROUTE);
        }
        DrystoneSimnet x = shared();
        x.pool(port(1, 1), 50, 2);
        due("the lower", sentFrom(x, 4, 3), 50);
        due("the higher", sentFrom(x, 0, 22), 51);
        due("used again", sentFrom(x, 0, 12), 51);
        due("the lower is free now, but its own stays", sentFrom(x, 0, 3), 51);
        due("by each use", sentFrom(x, 0, 30), 51);
        x.tick(10);
        due("the lowest free one", sentFrom(x, 0, 3), 50);
    }
    private static void poolTakesBack() {
        DrystoneSimnet x = shared();
        x.pool(port(1, 1), 50, 2);
        x.route(1, 48, 2, 1);
        due("got", sentFrom(x, 0, 3), 50);
        int back = x.send(2, 50, 0);
        int free = x.send(2, 51, 0);
        x.tick(3);
        fate("translated back", x, back, DELIVERED, 0, 34);
        fate("one that none has got is not", x, free, WRONG, 0, 34);
        x.tick(25);
        x.send(2, 50, 0);
        x.tick(20);
        x.send(2, 50, 0);
        x.tick(2);
        due("used by that, too", sentFrom(x, 4, 3), 51);
        x.rule(1, 0, 0, 1, 6, NONE, false);
        int ruled = x.send(2, 50, 0);
        x.tick(2);
        due("rules see it behind translation back", x.fate(ruled), FILTERED);
        DrystoneSimnet y = shared();
        y.pool(port(1, 1), 2, 1);
        int own = y.send(2, 2, 0);
        y.tick(1);
        fate("a free address of the pool may be the router's", y, own, DELIVERED, 1, 34);
        y.rule(1, 34, 6, 0, 0, NONE, false);
        y.watch(1, true);
        due("got", sentFrom(y, 0, 3), 2);
        int reply = y.send(2, 2, 0);
        y.tick(3);
        fate("translated back first, and a reply by that", y, reply, DELIVERED, 0, 34);
        y.pool(port(1, 1), 2, 1);
        int late = y.send(2, 2, 0);
        y.tick(3);
        fate("nothing is got in a new pool", y, late, DELIVERED, 1, 34);
    }
    private static void lowestPoolIsAsked() {
        DrystoneSimnet x = shared();
        x.pool(port(1, 1), 50, 1);
        x.route(1, 50, 6, 3);
        due("got", sentFrom(x, 0, 3), 50);
        x.pool(port(1, 2), 50, 1);
        int back = x.send(2, 50, 0);
        x.tick(3);
        due("the lower port is asked", x.fate(back), DELIVERED);
        x.pool(port(1, 0), 49, 2);
        back = x.send(2, 50, 0);
        x.tick(3);
        fate("of several the lowest alone", x, back, WRONG, 4, 49);
        x.pool(port(1, 0), 48, 2);
        back = x.send(2, 50, 0);
        x.tick(3);
        fate("one that ends ahead of the address is not asked", x, back, DELIVERED, 0, 48);
    }

    private static void promise14Send() {
        DrystoneSimnet x = row();
        for (int b : new int[] {-1, 3, LEAST, MOST}) outside("send of " + b, () -> x.send(b, 0, 0));
        outside("no box goes ahead of no service", () -> x.send(3, 0, 4));
        illegal("of a router", () -> x.send(1, 0, 0));
        illegal("of a bridge", () -> boxes(BRIDGE).send(0, 0, 0));
        for (int v : new int[] {-1, 64, LEAST, MOST}) illegal("dest " + v, () -> x.send(0, v, 0));
        for (int v : new int[] {-1, 4, LEAST, MOST}) illegal("service " + v, () -> x.send(0, 0, v));
        due("the first", x.send(0, 10, 0), 0);
        due("its frame is there at once", x.frames(), 1);
        for (int i = 1; i < 60; i++) due("packet " + i, x.send(0, i % 2 == 0 ? 10 : 40, i % 4), i);
        full("the next one", () -> x.send(0, 10, 0));
        illegal("the next one, of no service", () -> x.send(0, 10, 4));
        due("all are on cables", x.frames(), 60);
        x.tick(2);
        fate("the first", x, 0, DELIVERED, 2, 1);
        fate("the second", x, 1, NO_ROUTE, 1, 1);
        fate("the last but one", x, 58, DELIVERED, 2, 1);
        full("still", () -> x.send(0, 10, 0));
        DrystoneSimnet y = boxes(HOST, HOST);
        y.cable(0, 4);
        y.address(4, 5, 3);
        y.gateway(0, 5);
        fate("without an address", y, y.send(0, 5, 0), NO_ROUTE, 0, NONE);
        y.address(0, 4, 3);
        fate("to itself", y, y.send(0, 4, 0), NO_ONE, 0, 4);
        fate("to nobody", y, y.send(0, 6, 0), NO_ONE, 0, 4);
        int packet = y.send(0, 5, 0);
        y.tick(1);
        fate("straight", y, packet, DELIVERED, 1, 4);
        DrystoneSimnet w = pair();
        fate("to itself by a bridge", w, w.send(0, 1, 0), NO_ONE, 0, 1);
        DrystoneSimnet z = boxes(HOST, BRIDGE, HOST, HOST);
        z.cable(0, 4);
        z.cable(8, 5);
        z.cable(12, 6);
        z.address(0, 1, 3);
        z.address(12, 2, 3);
        z.address(8, 2, 3);
        packet = z.send(0, 2, 0);
        z.tick(2);
        fate("the lowest port with the address", z, packet, DELIVERED, 2, 1);
        z.turn(1);
        packet = z.send(0, 2, 0);
        z.tick(2);
        fate("that is seen", z, packet, DELIVERED, 3, 1);
    }

    private static void promise15Tick() {
        DrystoneSimnet x = row();
        for (int t : new int[] {0, -1, 31, LEAST, MOST}) illegal("tick " + t, () -> x.tick(t));
        due("one", x.tick(1), 1);
        due("thirty", x.tick(30), 31);
        due("two", x.tick(2), 33);
        int packet = x.send(0, 10, 0);
        illegal("too many", () -> x.tick(31));
        due("nothing moved", x.fate(packet), FLYING);
        x.tick(1);
        due("on the next cable", x.frames(), 1);
        due("not yet", x.fate(packet), FLYING);
        x.tick(1);
        due("there", x.fate(packet), DELIVERED);
        DrystoneSimnet y = chain(3);
        y.box(HOST);
        y.cable(port(3, 0), port(0, 0));
        y.address(port(0, 0), 60, 5);
        y.address(port(3, 0), 61, 5);
        y.gateway(3, 60);
        packet = y.send(3, 5, 0);
        y.tick(1);
        due("routers learn ahead of the frames of a tick", y.fate(packet), FLYING);
        y.tick(1);
        due("one router more", y.fate(packet), FLYING);
        y.tick(1);
        fate("delivered at a router", y, packet, DELIVERED, 2, 61);
        oldAge();
        framesInOrder();
        tooManyFrames();
    }
    /** Two routers that send all to each other. */
    private static void oldAge() {
        DrystoneSimnet x = row();
        x.box(ROUTER);
        x.turn(1);
        x.cable(port(1, 2), port(3, 0));
        x.address(port(1, 2), 17, 3);
        x.address(port(3, 0), 18, 3);
        x.route(1, 0, 0, 18);
        x.route(3, 40, 3, 17);
        int packet = x.send(0, 40, 2);
        x.tick(8);
        due("eight routers passed", x.fate(packet), FLYING);
        x.tick(1);
        fate("the ninth", x, packet, OLD, 1, 1);
        x.rule(1, 0, 0, 0, 0, 3, false);
        due("it is proved so", x.proved(0, 40, 2), 10 * OLD + 1);
        due("rules go behind age, but are met before", x.proved(0, 40, 3), 10 * FILTERED + 1);
        for (int i = 0; i < 8; i++) due("way " + i, x.way(0, 40, 2, i), i % 2 == 0 ? 1 : 3);
        due("no more", x.way(0, 40, 2, 8), NONE);
    }
    private static void framesInOrder() {
        DrystoneSimnet x = shared();
        x.pool(port(1, 1), 50, 2);
        int second = x.send(4, 34, 0);
        int first = x.send(0, 34, 0);
        x.tick(3);
        due("the one that was put first comes first", x.source(second), 50);
        due("then the other", x.source(first), 51);
    }
    /**
     * Of 30 frames that come to a bridge, each is to be put on three cables. With frame k there are 30 - k still to
     * arrive, so that the first 17 find room for all three, and each of the others for the first one alone.
     */
    private static void tooManyFrames() {
        for (int dest = 1; dest <= 3; dest++) {
            DrystoneSimnet x = boxes(BRIDGE, HOST, HOST, HOST, HOST);
            for (int i = 0; i < 4; i++) {
                x.cable(port(0, i), port(1 + i, 0));
                x.address(port(1 + i, 0), i, 3);
            }
            for (int i = 0; i < 30; i++) x.send(1, dest, 0);
            due("30 sent", x.frames(), 30);
            x.tick(1);
            due("not more than 64", x.frames(), 64);
            int late = x.send(1, dest, 0);
            fate("no room for one more", x, late, LOST, NONE, NONE);
            due("still 64", x.frames(), 64);
            x.tick(1);
            for (int i = 0; i < 30; i++) {
                due("to " + dest + ", packet " + i, x.fate(i), dest == 1 || i < 17 ? DELIVERED : LOST);
            }
            due("all are taken", x.frames(), 0);
            fate("room again", x, x.send(1, dest, 0), FLYING, NONE, NONE);
        }
    }

    private static void promise16Fate() {
        DrystoneSimnet x = pair();
        for (int p : new int[] {-1, 0, LEAST, MOST}) outside("fate " + p, () -> x.fate(p));
        int packet = x.send(0, 2, 0);
        due("FLYING", x.fate(packet), FLYING);
        outside("behind the last", () -> x.fate(1));
        x.tick(1);
        due("FLYING still", x.fate(packet), FLYING);
        x.tick(1);
        due("DELIVERED", x.fate(packet), DELIVERED);
        due("NO_ROUTE", x.fate(x.send(0, 40, 0)), NO_ROUTE);
        due("NO_ONE", x.fate(x.send(0, 3, 0)), NO_ONE);
        fate("the first stays", x, packet, DELIVERED, 1, 1);
        // What comes first counts: a copy that is led to the port a second time meets another address there.
        DrystoneSimnet y = boxes(HOST, BRIDGE, BRIDGE, BRIDGE, HOST);
        y.cable(port(0, 0), port(1, 0));
        y.cable(port(1, 1), port(3, 0));
        y.cable(port(1, 2), port(2, 0));
        y.cable(port(2, 1), port(3, 1));
        y.cable(port(3, 2), port(4, 0));
        y.address(port(0, 0), 1, 3);
        y.address(port(4, 0), 2, 3);
        packet = y.send(0, 2, 0);
        y.tick(1);
        due("two copies", y.frames(), 2);
        y.tick(1);
        due("one goes to the host; at bridge 2 it ends, as the cable is blocked", y.frames(), 1);
        y.tick(1);
        due("there", y.fate(packet), DELIVERED);
        DrystoneSimnet z = boxes(HOST, BRIDGE, BRIDGE, BRIDGE, HOST);
        z.cable(port(0, 0), port(1, 0));
        z.cable(port(1, 1), port(3, 0));
        z.cable(port(1, 2), port(2, 0));
        z.cable(port(2, 1), port(3, 1));
        z.cable(port(3, 2), port(4, 0));
        z.address(port(0, 0), 1, 3);
        z.address(port(4, 0), 2, 3);
        packet = z.send(0, 2, 0);
        z.tick(1);
        z.turn(1);
        z.tick(1);
        due("one copy is lost, the other goes by the cable that is open now", z.fate(packet), FLYING);
        z.tick(2);
        fate("it comes", z, packet, DELIVERED, 4, 1);
    }

    private static void promise17Where() {
        DrystoneSimnet x = row();
        for (int p : new int[] {-1, 0, LEAST, MOST}) outside("where " + p, () -> x.where(p));
        int packet = x.send(0, 10, 0);
        int own = x.send(0, 9, 0);
        int none = x.send(0, 50, 0);
        due("flying", x.where(packet), NONE);
        x.tick(2);
        due("at the host", x.where(packet), 2);
        due("delivered at the router, by an address of its other port", x.fate(own), DELIVERED);
        due("at the router", x.where(own), 1);
        due("failed at the router", x.where(none), 1);
        due("failed at the host itself", x.where(x.send(0, 3, 0)), 0);
        int lost = x.send(0, 10, 0);
        x.turn(0);
        x.tick(1);
        due("lost", x.where(lost), NONE);
    }

    private static void promise18Source() {
        DrystoneSimnet x = shared();
        for (int p : new int[] {-1, 0, LEAST, MOST}) outside("source " + p, () -> x.source(p));
        x.pool(port(1, 1), 50, 1);
        int packet = x.send(0, 34, 0);
        due("flying", x.source(packet), NONE);
        x.tick(3);
        due("as translated", x.source(packet), 50);
        int other = x.send(4, 34, 0);
        x.tick(3);
        due("as it was where it failed", x.source(other), 3);
        x.turn(3);
        int nobody = x.send(0, 34, 0);
        x.tick(2);
        fate("not translated where nobody is", x, nobody, NO_ONE, 1, 1);
        x.box(HOST);
        due("none", x.source(x.send(5, 1, 0)), NONE);
        int lost = x.send(0, 34, 0);
        x.turn(0);
        x.tick(1);
        due("lost", x.source(lost), NONE);
    }

    private static void promise19Frames() {
        DrystoneSimnet x = pair();
        x.box(HOST);
        x.cable(port(3, 0), port(2, 2));
        due("none", x.frames(), 0);
        x.send(0, 3, 0);
        due("nobody: none", x.frames(), 0);
        x.send(0, 2, 0);
        due("one", x.frames(), 1);
        x.tick(1);
        due("flooded to two", x.frames(), 2);
        x.tick(1);
        due("both are taken", x.frames(), 0);
        x.send(1, 1, 0);
        x.tick(1);
        due("by a note to one", x.frames(), 1);
        x.turn(0);
        due("on a broken cable", x.frames(), 1);
        x.tick(1);
        due("lost", x.frames(), 0);
    }

    private static void promise20Noted() {
        DrystoneSimnet x = pair();
        x.box(ROUTER);
        for (int b : new int[] {-1, 4, LEAST, MOST}) outside("noted of " + b, () -> x.noted(b, 0));
        for (int p : new int[] {-1, 1, 15, 16, LEAST, MOST}) outside("noted port " + p, () -> x.noted(2, p));
        outside("no port goes ahead of no bridge", () -> x.noted(0, 1));
        illegal("of a host", () -> x.noted(0, 4));
        illegal("of a router", () -> x.noted(3, 4));
        illegal("a bridge's port", () -> x.noted(2, 8));
        due("nothing", x.noted(2, 0), NONE);
        x.send(0, 2, 0);
        due("not yet", x.noted(2, 0), NONE);
        x.tick(1);
        due("the sender", x.noted(2, 0), 0);
        due("not the other one", x.noted(2, 4), NONE);
        x.tick(20);
        due("20 ticks ago", x.noted(2, 0), 0);
        x.tick(1);
        due("21 ticks ago", x.noted(2, 0), NONE);
        x.send(1, 1, 0);
        x.tick(1);
        due("the other port", x.noted(2, 4), 1);
        x.send(1, 1, 0);
        x.tick(1);
        x.tick(20);
        due("noted again", x.noted(2, 4), 1);
        notesOfBridges();
        notesAndNets();
    }
    private static void notesOfBridges() {
        for (int late = 20; late <= 21; late++) {
            DrystoneSimnet x = pair();
            x.box(HOST);
            x.cable(port(3, 0), port(2, 3));
            x.send(1, 1, 0);
            x.tick(1);
            x.tick(late - 1);
            x.send(0, 2, 0);
            x.tick(1);
            due("by a note " + late + " ticks ago", x.frames(), late == 20 ? 1 : 2);
        }
        DrystoneSimnet y = boxes(HOST, BRIDGE, HOST, BRIDGE, BRIDGE);
        y.cable(port(0, 0), port(1, 0));
        y.cable(port(2, 0), port(3, 0));
        y.cable(port(1, 1), port(3, 1));
        y.cable(port(1, 2), port(4, 0));
        y.cable(port(3, 2), port(4, 1));
        y.address(port(0, 0), 1, 3);
        y.address(port(2, 0), 2, 3);
        y.send(2, 1, 0);
        y.tick(3);
        due("by the tree", y.noted(1, 8), 1);
        due("and flooded", y.noted(4, 8), 0);
        y.turn(2);
        int packet = y.send(0, 2, 0);
        y.tick(3);
        fate("a note leads to a cable that is broken", y, packet, LOST, NONE, NONE);
        y.send(2, 1, 0);
        y.tick(1);
        due("noted from the host", y.noted(3, 8), 0);
        y.tick(3);
        due("by the other way", y.noted(1, 8), 2);
        packet = y.send(0, 2, 0);
        y.tick(4);
        due("there", y.fate(packet), DELIVERED);
        // A frame that comes by the port at which the other one is noted does not leave.
        DrystoneSimnet z = boxes(HOST, BRIDGE, HOST, BRIDGE, HOST);
        z.cable(port(0, 0), port(1, 0));
        z.cable(port(2, 0), port(1, 1));
        z.cable(port(1, 2), port(3, 0));
        z.cable(port(4, 0), port(3, 1));
        z.address(port(0, 0), 1, 3);
        z.address(port(2, 0), 2, 3);
        z.address(port(4, 0), 3, 3);
        z.send(0, 3, 0);
        z.tick(3);
        due("noted towards bridge 1", z.noted(3, 0), 0);
        z.send(2, 1, 0);
        z.tick(1);
        due("by the note to one port", z.frames(), 1);
        z.tick(1);
        z.tick(21);
        z.send(0, 2, 0);
        z.tick(1);
        due("notes are old: flooded", z.frames(), 2);
        z.tick(2);
        z.send(2, 1, 0);
        z.tick(2);
        due("bridge 3 has not heard of it", z.noted(3, 8), NONE);
    }
    private static void notesAndNets() {
        DrystoneSimnet x = boxes(HOST, BRIDGE, BRIDGE, HOST, HOST);
        x.cable(port(0, 0), port(1, 0));
        x.cable(port(1, 1), port(2, 0));
        x.cable(port(2, 1), port(3, 0));
        x.cable(port(1, 2), port(4, 0));
        x.address(port(0, 0), 1, 3);
        x.address(port(3, 0), 2, 3);
        x.address(port(4, 0), 3, 3);
        x.net(port(1, 0), 1);
        x.net(port(1, 2), 1);
        x.net(port(1, 1), TRUNK);
        int packet = x.send(0, 3, 0);
        x.tick(2);
        due("in net 1", x.fate(packet), DELIVERED);
        due("a frame that is lost by its tag notes nothing", x.noted(2, 0), NONE);
        x.net(port(2, 0), TRUNK);
        x.send(0, 3, 0);
        x.tick(1);
        due("by the note of 4's port... none is there yet: flooded", x.frames(), 2);
        x.tick(1);
        due("noted in net 1 behind the trunk", x.noted(2, 0), 0);
        due("but it cannot leave there", x.frames(), 0);
        x.net(port(2, 1), 1);
        packet = x.send(3, 1, 0);
        x.tick(3);
        fate("and back by the notes", x, packet, DELIVERED, 0, 2);
        x.net(port(2, 0), 0);
        due("no longer seen", x.sees(port(3, 0), port(0, 0)), false);
        x.net(port(2, 0), TRUNK);
        packet = x.send(3, 1, 0);
        x.tick(1);
        x.net(port(1, 0), 2);
        x.tick(1);
        due("a note of a port by which it cannot leave: not at all", x.frames(), 0);
        due("lost", x.fate(packet), LOST);
    }

    private static void promise21Learnt() {
        DrystoneSimnet x = row();
        for (int b : new int[] {-1, 3, LEAST, MOST}) outside("learnt of " + b, () -> x.learnt(b, 0, 1));
        outside("no box goes ahead of no length", () -> x.learnt(3, 0, 0));
        illegal("of a host", () -> x.learnt(0, 0, 1));
        illegal("of a bridge", () -> boxes(BRIDGE).learnt(0, 0, 1));
        for (int v : new int[] {-1, 64, LEAST, MOST}) illegal("address " + v, () -> x.learnt(1, v, 1));
        for (int l : new int[] {-1, 0, 7, LEAST, MOST}) illegal("length " + l, () -> x.learnt(1, 0, l));
        x.tick(5);
        due("its own prefixes are not learnt", x.learnt(1, 1, 3), NONE);
        due("nor are hosts' prefixes", x.learnt(1, 10, 6), NONE);
        DrystoneSimnet y = chain(10);
        due("ahead of the first tick", y.learnt(0, 4, 4), NONE);
        for (int tick = 1; tick <= 9; tick++) {
            y.tick(1);
            for (int far = 1; far <= 8; far++) {
                due("at " + tick + " of " + far, y.learnt(0, 4 * far + 3, 4), far <= tick && far <= 7 ? 10000 * far + 100 + port(1, 0) : NONE);
            }
        }
        due("of another length", y.learnt(0, 4, 3), NONE);
        due("from both sides, the nearer", y.learnt(5, 4 * 3, 4), 10000 + port(4, 1));
        due("from the other side", y.learnt(5, 4 * 7, 4), 20000 + 100 + port(6, 0));
        y.turn(0);
        for (int tick = 1; tick <= 9; tick++) {
            y.tick(1);
            due("forgotten at once, as nobody else tells it", y.learnt(0, 4, 4), NONE);
        }
        learntOfOwn();
        countingUp();
        tiesOfLearning();
    }
    /** What is learnt of a prefix is hidden from the moment it is an own one, and only as long as it is. */
    private static void learntOfOwn() {
        for (int own = 0; own < 3; own++) {
            DrystoneSimnet x = boxes(ROUTER, ROUTER);
            x.cable(port(0, 0), port(1, 0));
            x.address(port(0, 0), 0, 1);
            x.address(port(1, 0), 0, 1);
            x.address(port(1, 1), 16, 3);
            x.address(port(1, 2), 16, 2);
            x.tick(1);
            String by = "by the port " + own + ": ";
            due(by + "learnt", x.learnt(0, 16, 3), 10000 + port(1, 0));
            x.address(port(0, own), 17, 3);
            due(by + "its own", x.learnt(0, 16, 3), NONE);
            due(by + "another address of its own", x.learnt(0, 23, 3), NONE);
            due(by + "a shorter one is another one", x.learnt(0, 16, 2), 10000 + port(1, 0));
            due(by + "the one who tells it has not learnt it", x.learnt(1, 16, 3), NONE);
            x.address(port(0, own), 17, 4);
            due(by + "a longer one is no longer the same", x.learnt(0, 16, 3), 10000 + port(1, 0));
            x.address(port(0, own), 25, 3);
            due(by + "nor is its neighbour", x.learnt(0, 16, 3), 10000 + port(1, 0));
            x.address(port(0, own), 16, 3);
            due(by + "its own again", x.learnt(0, 16, 3), NONE);
            x.tick(1);
            due(by + "its own in the next tick", x.learnt(0, 16, 3), NONE);
            x.address(port(0, own), 0, 1);
            due(by + "not learnt by an address", x.learnt(0, 16, 3), NONE);
            x.tick(1);
            due(by + "learnt in a tick", x.learnt(0, 16, 3), 10000 + port(1, 0));
        }
    }
    /** A prefix that is gone is told around among routers until it is too far. */
    private static void countingUp() {
        DrystoneSimnet x = chain(3);
        x.tick(2);
        due("two away", x.learnt(0, 4, 4), 10000 + 100 + port(1, 0));
        due("of the first link", x.learnt(2, 0, 4), 10000 + port(1, 1));
        x.address(port(1, 1), 40, 4);
        x.address(port(2, 0), 41, 4);
        for (int tick = 1; tick <= 7; tick++) {
            x.tick(1);
            due("1 hears of it from 0 at tick " + tick, x.learnt(1, 4, 4), tick % 2 == 1 && tick <= 6 ? 10000 * (tick + 1) + port(0, 1) : NONE);
        }
        due("the new one", x.learnt(0, 40, 4), 10000 + 100 + port(1, 0));
        DrystoneSimnet y = boxes(ROUTER, ROUTER, ROUTER);
        y.cable(port(0, 0), port(1, 0));
        y.cable(port(0, 1), port(2, 0));
        y.address(port(0, 0), 0, 4);
        y.address(port(1, 0), 1, 4);
        y.address(port(0, 1), 4, 4);
        y.address(port(2, 0), 5, 4);
        y.address(port(2, 1), 32, 4);
        y.tick(4);
        due("of the third", y.learnt(0, 33, 4), 10100 + port(2, 0));
        due("of the third by the first", y.learnt(1, 33, 4), 20000 + port(0, 0));
        y.turn(1);
        int[] first = {3, 3, 5, 5, 7, 7, 0, 0};
        int[] second = {2, 4, 4, 6, 6, 0, 0, 0};
        for (int tick = 0; tick < 8; tick++) {
            y.tick(1);
            due("the first hears it from the second", y.learnt(0, 33, 4), first[tick] == 0 ? NONE : 10000 * first[tick] + port(1, 0));
            due("the second from the first", y.learnt(1, 33, 4), second[tick] == 0 ? NONE : 10000 * second[tick] + port(0, 0));
        }
    }
    private static void tiesOfLearning() {
        DrystoneSimnet x = boxes(ROUTER, ROUTER, BRIDGE, BRIDGE, ROUTER);
        x.cable(port(0, 0), port(2, 0));
        x.cable(port(1, 1), port(2, 1));
        x.cable(port(1, 0), port(2, 2));
        x.cable(port(0, 1), port(3, 0));
        x.cable(port(1, 2), port(3, 1));
        x.cable(port(4, 0), port(3, 2));
        x.address(port(1, 0), 1, 6);
        x.address(port(1, 1), 2, 6);
        x.address(port(1, 2), 3, 6);
        x.tick(1);
        due("a port without an address does not listen", x.learnt(0, 1, 6), NONE);
        x.address(port(0, 1), 4, 6);
        x.tick(1);
        due("by the other port", x.learnt(0, 1, 6), 10100 + port(1, 2));
        x.address(port(0, 0), 5, 6);
        due("not ahead of the tick", x.learnt(0, 1, 6), 10100 + port(1, 2));
        x.tick(1);
        due("the lowest own port, then the lowest next port", x.learnt(0, 1, 6), 10000 + port(1, 0));
        due("a port without an address tells nothing", x.learnt(0, 8, 6), NONE);
        x.address(port(4, 1), 8, 6);
        x.tick(2);
        due("nor of the others of its router", x.learnt(0, 8, 6), NONE);
        x.address(port(4, 0), 9, 6);
        x.tick(1);
        due("with one it does", x.learnt(0, 8, 6), 10100 + port(4, 0));
        due("of length 1", x.learnt(0, 9, 1), NONE);
        x.address(port(4, 2), 32, 1);
        x.tick(1);
        due("learnt of length 1", x.learnt(0, 63, 1), 10100 + port(4, 0));
        x.route(4, 30, 6, 3);
        x.tick(2);
        due("told routes are not told on", x.learnt(0, 30, 6), NONE);
        x.address(port(0, 2), 8, 6);
        x.tick(1);
        due("its own is not learnt", x.learnt(0, 8, 6), NONE);
    }

    private static void promise22And23Reach() {
        DrystoneSimnet x = row();
        for (int b : new int[] {-1, 3, LEAST, MOST}) {
            outside("reach from " + b, () -> x.reach(b, 0));
            outside("reach to " + b, () -> x.reach(0, b));
            outside("reachAnew from " + b, () -> x.reachAnew(b, 0));
            outside("reachAnew to " + b, () -> x.reachAnew(0, b));
        }
        outside("no box goes ahead of no host", () -> x.reach(1, 3));
        outside("likewise", () -> x.reachAnew(1, 3));
        illegal("from a router", () -> x.reach(1, 0));
        illegal("from a router, anew", () -> x.reachAnew(1, 0));
        both("the other host", x, 0, 2, 4);
        both("the router's two addresses", x, 0, 1, 8);
        both("itself", x, 0, 0, 0);
        both("back", x, 2, 0, 4);
        x.rule(1, 0, 0, 10, 6, 1, false);
        both("without one service", x, 0, 2, 3);
        x.rule(1, 0, 0, 8, 4, NONE, true);
        x.rule(1, 0, 0, 0, 0, NONE, false);
        both("rules in order", x, 0, 2, 3);
        both("back nothing passes", x, 2, 0, 0);
        both("the router goes ahead of rules", x, 2, 1, 8);
        x.box(BRIDGE);
        both("a bridge", x, 0, 3, 0);
        x.gateway(0, NONE);
        both("no gateway", x, 0, 2, 0);
        both("in the prefix", x, 0, 1, 4);
        x.turn(0);
        both("a broken cable", x, 0, 1, 0);
        x.box(HOST);
        both("without an address", x, 4, 0, 0);
        poolsInProofs();
        routesInProofs();
        levelsInProofs();
        settlingInProofs();
        lowestInProofs();
        DrystoneSimnet y = chain(9);
        y.box(HOST);
        y.cable(port(9, 0), port(0, 0));
        y.address(port(0, 0), 62, 5);
        y.address(port(9, 0), 63, 5);
        y.gateway(9, 62);
        both("routers have learnt in the settled net, ahead of all ticks", y, 9, 7, 8);
        both("the last one's link is 7 away, but its router 8", y, 9, 8, 4);
        due("nothing is learnt by proving", y.learnt(0, 4, 4), NONE);
        due("the far end", y.proved(9, 4 * 7 + 1, 0), 10 * DELIVERED + 8);
        due("its way", y.way(9, 4 * 7 + 1, 0, 7), 7);
        due("not itself", y.way(9, 4 * 7 + 1, 0, 8), NONE);
        y.route(0, 56, 3, 1);
        y.address(port(8, 1), 56, 4);
        y.address(port(8, 2), 50, 4);
        due("8 away is not learnt", y.proved(9, 50, 0), 10 * NO_ROUTE + 0);
    }
    private static void both(String what, DrystoneSimnet x, int host, int to, int want) {
        due(what + ", by sets", x.reach(host, to), want);
        due(what + ", by packets", x.reachAnew(host, to), want);
    }
    /** A second router behind the first filters by the source that the pool of the first gives. */
    private static void poolsInProofs() {
        DrystoneSimnet x = row();
        x.box(ROUTER);
        x.cable(port(1, 2), port(3, 0));
        x.address(port(1, 2), 17, 3);
        x.address(port(3, 0), 18, 3);
        x.address(port(3, 1), 33, 3);
        x.route(3, 0, 0, 17);
        both("two addresses", x, 0, 3, 8);
        x.box(HOST);
        x.cable(port(4, 0), port(3, 1));
        x.address(port(4, 0), 34, 3);
        x.rule(3, 1, 6, 0, 0, NONE, false);
        both("filtered by the source", x, 0, 4, 0);
        x.pool(port(1, 2), 44, 2);
        both("its pool's first address", x, 0, 4, 4);
        x.rule(3, 44, 6, 0, 0, 2, false);
        both("filtered by that", x, 0, 4, 3);
        due("and its fate", x.proved(0, 34, 2), 10 * FILTERED + 3);
        x.watch(3, true);
        x.watch(1, true);
        for (int i = 0; i < 3; i++) {
            x.send(0, 34, 0);
            x.tick(5);
        }
        both("no use of the pool counts", x, 0, 4, 3);
        x.gateway(4, 33);
        x.route(1, 44, 6, 1);
        due("nothing is translated back", x.proved(4, 44, 0), 10 * WRONG + 0);
        int packet = x.send(4, 44, 0);
        x.tick(4);
        fate("though a packet is", x, packet, DELIVERED, 0, 34);
    }

    /** A host with 0/3 and a gateway, a router with hosts on both sides, routes of all kinds and lengths. */
    private static void routesInProofs() {
        DrystoneSimnet x = boxes(HOST, BRIDGE, ROUTER, HOST, HOST, ROUTER, BRIDGE);
        x.cable(port(0, 0), port(1, 0));
        x.cable(port(2, 0), port(1, 1));
        x.cable(port(3, 0), port(1, 2));
        x.cable(port(4, 0), port(6, 1));
        x.cable(port(2, 1), port(6, 0));
        x.cable(port(5, 0), port(6, 2));
        x.address(port(0, 0), 1, 3);
        x.address(port(3, 0), 0, 3);
        x.address(port(2, 0), 2, 3);
        x.address(port(2, 1), 8, 3);
        x.address(port(4, 0), 9, 3);
        x.address(port(5, 0), 9, 3);
        x.address(port(5, 1), 40, 3);
        x.gateway(0, 2);
        both("the address 0", x, 0, 3, 4);
        both("the lowest port of those with an address", x, 0, 4, 4);
        both("the higher one by what is learnt", x, 0, 5, 4);
        x.route(2, 63, 0, 9);
        both("a route for all to a host delivers nothing more", x, 0, 4, 4);
        x.turn(3);
        both("the higher one when the lower one is not seen", x, 0, 5, 8);
        x.address(port(5, 2), 63, 6);
        both("learnt goes ahead of the route for all, as it is longer", x, 0, 5, 12);
        x.route(2, 63, 6, 2);
        both("told goes ahead of learnt of one length", x, 0, 5, 8);
        x.route(2, 40, 2, 9);
        both("learnt goes ahead of a shorter one", x, 0, 5, 8);
        x.route(2, 40, 4, 33);
        both("not of a longer one without a way", x, 0, 5, 4);
        x.route(2, 40, 6, 9);
        both("but that of a still longer one", x, 0, 5, 8);
        x.route(2, 40, 6, 33);
        both("the first of two", x, 0, 5, 8);
        x.turn(3);
        both("told to a host", x, 0, 5, 0);
        both("still its own", x, 0, 4, 4);
        DrystoneSimnet y = boxes(HOST, ROUTER, ROUTER);
        y.cable(port(0, 0), port(1, 0));
        y.cable(port(1, 1), port(2, 0));
        y.address(port(0, 0), 1, 3);
        y.gateway(0, 2);
        y.address(port(1, 0), 2, 3);
        y.address(port(1, 1), 8, 3);
        y.address(port(2, 0), 9, 3);
        y.address(port(2, 1), 30, 2);
        y.address(port(2, 2), 46, 1);
        both("learnt ones of several lengths", y, 0, 2, 12);
        y.route(1, 46, 1, 8);
        both("told ahead of learnt of length 1: its own address", y, 0, 2, 8);
        y.rule(1, 1, 6, 30, 6, 2, false);
        y.rule(1, 1, 6, 30, 6, 2, true);
        y.rule(2, 1, 6, 9, 6, 1, false);
        both("rules of the router that is met first", y, 0, 2, 7);
    }
    /** Each kind of proof settles the net by itself, and anew when it was changed. */
    private static void settlingInProofs() {
        for (int kind = 0; kind < 4; kind++) {
            DrystoneSimnet x = chain(3);
            x.box(HOST);
            x.cable(port(3, 0), port(0, 0));
            x.address(port(0, 0), 60, 4);
            x.address(port(3, 0), 61, 4);
            x.gateway(3, 60);
            due("proof " + kind, settled(x, kind), true);
            x.turn(1);
            due("proof " + kind + " with a broken cable", settled(x, kind), false);
            x.turn(1);
            due("proof " + kind + " with the cable mended", settled(x, kind), true);
            x.tick(3);
            due("proof " + kind + " when it is learnt", settled(x, kind), true);
            x.turn(0);
            x.turn(1);
            x.turn(0);
            due("proof " + kind + " with a broken cable, and no tick yet", settled(x, kind), false);
        }
        routeForAll();
    }
    private static void routeForAll() {
        DrystoneSimnet x = boxes(HOST, ROUTER, ROUTER);
        x.cable(port(0, 0), port(1, 0));
        x.cable(port(1, 1), port(2, 0));
        x.address(port(0, 0), 1, 3);
        x.gateway(0, 2);
        x.address(port(1, 0), 2, 3);
        x.address(port(1, 1), 8, 3);
        x.address(port(2, 1), 40, 3);
        x.route(1, 63, 0, 9);
        both("nobody is at the next address", x, 0, 2, 0);
        x.address(port(2, 0), 9, 3);
        both("the link by its prefix, the other by what is learnt", x, 0, 2, 8);
        DrystoneSimnet y = boxes(HOST, ROUTER, HOST, HOST);
        y.cable(port(0, 0), port(1, 0));
        y.cable(port(1, 1), port(2, 0));
        y.cable(port(1, 2), port(3, 0));
        y.address(port(0, 0), 1, 3);
        y.gateway(0, 2);
        y.address(port(1, 0), 2, 3);
        y.address(port(1, 1), 9, 6);
        y.address(port(1, 2), 16, 3);
        y.address(port(3, 0), 17, 3);
        y.address(port(2, 0), 33, 3);
        both("no way", y, 0, 2, 0);
        y.route(1, 7, 0, 9);
        both("nobody is at its own address", y, 0, 2, 0);
        y.address(port(2, 0), 9, 3);
        both("delivered at the router, not at the host with that address", y, 0, 2, 0);
        y.address(port(1, 1), 8, 3);
        both("the host by its prefix", y, 0, 2, 4);
        DrystoneSimnet z = boxes(HOST, ROUTER, ROUTER);
        z.cable(port(0, 0), port(1, 0));
        z.cable(port(1, 1), port(2, 0));
        z.address(port(0, 0), 1, 3);
        z.gateway(0, 2);
        z.address(port(1, 0), 2, 3);
        z.address(port(1, 1), 8, 3);
        z.address(port(2, 0), 9, 3);
        z.route(1, 40, 0, 9);
        both("what nobody tells yet", z, 0, 2, 4);
        z.turn(1);
        z.address(port(2, 1), 40, 3);
        both("not by a broken cable", z, 0, 2, 0);
        z.turn(1);
        z.rule(1, 0, 0, 40, 6, 0, false);
        both("learnt", z, 0, 2, 7);
    }
    private static boolean settled(DrystoneSimnet x, int kind) {
        switch (kind) {
            case 0: return x.reach(3, 2) > 0;
            case 1: return x.reachAnew(3, 2) > 0;
            case 2: return x.proved(3, 5, 3) == 10 * DELIVERED + 2;
            default: return x.way(3, 5, 3, 1) == 1;
        }
    }
    /** The lowest address, and the lowest prefix of each length. */
    private static void lowestInProofs() {
        for (int length = 1; length <= 6; length++) {
            DrystoneSimnet x = boxes(HOST, ROUTER, ROUTER);
            x.cable(port(0, 0), port(1, 0));
            x.cable(port(1, 1), port(2, 0));
            x.address(port(0, 0), 61, 4);
            x.gateway(0, 62);
            x.address(port(1, 0), 62, 4);
            x.address(port(1, 1), 40, 4);
            x.address(port(2, 0), 41, 4);
            x.address(port(2, 1), 0, length);
            both("learnt, of length " + length, x, 0, 2, 8);
            x.turn(1);
            x.address(port(2, 0), 0, length);
            x.address(port(1, 1), 40, 6);
            x.address(port(2, 2), 1, 6);
            x.turn(1);
            x.pool(port(1, 1), 0, 4);
            x.rule(2, 0, 6, 1, 6, NONE, false);
            both("the address itself alone", x, 0, 2, 8);
            x.route(1, 0, length, 40);
            both("its own next address", x, 0, 2, 4);
        }
        for (int dest = 0; dest < 64; dest += 63) {
            DrystoneSimnet x = boxes(HOST, HOST);
            x.cable(0, 4);
            x.address(0, 30, 6);
            x.gateway(0, dest);
            x.address(4, dest, 1);
            both("by the gateway", x, 0, 1, 4);
            x.address(0, dest ^ 1, 1);
            both("straight", x, 0, 1, 4);
        }
    }
    /** Headers go round between routers until they are old. */
    private static void levelsInProofs() {
        DrystoneSimnet x = chain(3);
        for (int i = 3; i < 10; i++) x.box(i == 3 ? HOST : ROUTER);
        x.cable(port(3, 0), port(0, 0));
        x.address(port(3, 0), 60, 4);
        x.address(port(0, 0), 61, 4);
        x.gateway(3, 61);
        x.route(0, 56, 5, 1);
        x.route(1, 56, 5, 0);
        x.address(port(2, 1), 57, 6);
        both("a longer learnt one leads out of the ring", x, 3, 2, 8);
        due("another one goes round", x.proved(3, 56, 0), 10 * OLD + 0);
        both("nothing of that is delivered", x, 3, 1, 8);
        for (int i = 4; i < 10; i++) {
            int before = i == 4 ? 2 : i - 1;
            x.cable(port(before, 2), port(i, 0));
            x.address(port(before, 2), 12 + 4 * (i - 4), 4);
            x.address(port(i, 0), 13 + 4 * (i - 4), 4);
        }
        both("the eighth router passes to the ninth", x, 3, 9, 4);
        x.address(port(9, 1), 50, 6);
        for (int r = 0; r < 9; r++) if (r != 3) x.route(r, 50, 6, r < 2 ? 4 * r + 1 : r == 2 ? 13 : 13 + 4 * (r - 3));
        both("with another address there", x, 3, 9, 8);
        due("its way", x.way(3, 50, 0, 7), 8);
        x.address(port(9, 1), 51, 6);
        due("eight are passed: it is old at the ninth", x.proved(3, 50, 0), 10 * OLD + 9);
        both("of the new one nothing is known behind 7", x, 3, 9, 4);
        x.route(0, 63, 0, 1);
        both("but by a route for all", x, 3, 9, 8);
    }

    private static void promise24Proved() {
        DrystoneSimnet x = row();
        for (int b : new int[] {-1, 3, LEAST, MOST}) outside("proved of " + b, () -> x.proved(b, 0, 0));
        outside("no box goes ahead of no service", () -> x.proved(3, 0, 4));
        illegal("of a router", () -> x.proved(1, 0, 0));
        for (int v : new int[] {-1, 64, LEAST, MOST}) illegal("dest " + v, () -> x.proved(0, v, 0));
        for (int v : new int[] {-1, 4, LEAST, MOST}) illegal("service " + v, () -> x.proved(0, 0, v));
        due("delivered", x.proved(0, 10, 0), 12);
        due("at the router", x.proved(0, 9, 3), 11);
        due("nobody at the router", x.proved(0, 11, 0), 31);
        due("nobody at the host", x.proved(0, 3, 0), 30);
        due("itself", x.proved(0, 1, 0), 30);
        due("no route", x.proved(0, 63, 0), 21);
        x.rule(1, 0, 0, 10, 6, 2, false);
        due("filtered", x.proved(0, 10, 2), 41);
        due("no rule is needed for another", x.proved(0, 10, 1), 12);
        x.watch(1, true);
        x.send(2, 1, 2);
        x.tick(2);
        due("notes do not count", x.proved(0, 10, 2), 41);
        int reply = x.send(0, 10, 2);
        x.tick(2);
        due("though they do for packets", x.fate(reply), DELIVERED);
        x.gateway(0, NONE);
        due("no gateway", x.proved(0, 10, 0), 20);
        x.box(HOST);
        due("no address", x.proved(3, 10, 0), 23);
        due("nothing was sent", x.frames(), 0);
        DrystoneSimnet y = pair();
        y.gateway(0, 2);
        due("wrong", y.proved(0, 60, 0), 71);
        y.turn(1);
        due("nobody", y.proved(0, 60, 0), 30);
    }

    private static void promise25Way() {
        DrystoneSimnet x = chain(3);
        x.box(HOST);
        x.cable(port(3, 0), port(0, 0));
        x.address(port(0, 0), 62, 5);
        x.address(port(3, 0), 63, 5);
        x.gateway(3, 62);
        for (int b : new int[] {-1, 4, LEAST, MOST}) outside("way of " + b, () -> x.way(b, 0, 0, 0));
        for (int v : new int[] {-1, LEAST}) outside("place " + v, () -> x.way(3, 0, 0, v));
        outside("no place goes ahead of no host", () -> x.way(0, 64, 4, -1));
        illegal("of a router", () -> x.way(0, 0, 0, 0));
        for (int v : new int[] {-1, 64, LEAST, MOST}) illegal("dest " + v, () -> x.way(3, v, 0, 0));
        for (int v : new int[] {-1, 4, LEAST, MOST}) illegal("service " + v, () -> x.way(3, 0, v, 0));
        due("the first", x.way(3, 5, 0, 0), 0);
        due("the second", x.way(3, 5, 0, 1), 1);
        due("where it is delivered is none", x.way(3, 5, 0, 2), NONE);
        due("far behind", x.way(3, 5, 0, MOST), NONE);
        due("fails at the first", x.way(3, 33, 0, 0), NONE);
        due("fails at the second", x.way(3, 6, 0, 0), 0);
        due("which is none", x.way(3, 6, 0, 1), NONE);
        due("straight", x.way(3, 62, 0, 0), NONE);
        x.address(port(2, 1), 24, 3);
        due("routers have learnt it", x.way(3, 24, 0, 1), 1);
        due("fails at the host", x.way(3, 61, 0, 0), NONE);
        x.rule(1, 0, 0, 0, 0, 1, false);
        due("filtered at the second", x.way(3, 5, 1, 1), NONE);
        due("but it passes the first", x.way(3, 5, 1, 0), 0);
    }

    private static void exampleOfReadme() {
        DrystoneSimnet net = new DrystoneSimnet();
        int host = net.box(DrystoneSimnet.HOST);
        int router = net.box(DrystoneSimnet.ROUTER);
        net.cable(4 * host, 4 * router);
        net.address(4 * host, 1, 3);
        net.address(4 * router, 2, 3);
        net.address(4 * router + 1, 9, 3);
        net.gateway(host, 2);
        int packet = net.send(host, 9, 0);
        net.tick(1);
        fate("the example of README.md", net, packet, DELIVERED, 1, 1);
        due("its headers", net.reach(host, router), 8);
    }

    public static void main(String[] args) {
        promise1NewObject();
        promise2Box();
        promise3Cable();
        promise4Turn();
        promise5IsBlocked();
        promise6Net();
        promise7Sees();
        promise8Address();
        promise9Gateway();
        promise10Route();
        promise11Rule();
        promise12Watch();
        promise13Pool();
        promise14Send();
        promise15Tick();
        promise16Fate();
        promise17Where();
        promise18Source();
        promise19Frames();
        promise20Noted();
        promise21Learnt();
        promise22And23Reach();
        promise24Proved();
        promise25Way();
        exampleOfReadme();
        Checks.end("PromisesTest");
    }
}

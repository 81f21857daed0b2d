/** Small nets from which tests start, and how they look at answers. */
class Nets {
    static final int NONE = DrystoneSimnet.NONE, HOST = DrystoneSimnet.HOST, BRIDGE = DrystoneSimnet.BRIDGE,
        ROUTER = DrystoneSimnet.ROUTER, TRUNK = DrystoneSimnet.TRUNK;
    static final int FLYING = 0, DELIVERED = 1, NO_ROUTE = 2, NO_ONE = 3, FILTERED = 4, OLD = 5, POOL = 6, WRONG = 7, LOST = 8;
    static final int LEAST = Integer.MIN_VALUE, MOST = Integer.MAX_VALUE;

    static void due(String what, long got, long want) { Checks.due(what, got, want); }
    static void due(String what, boolean got, boolean want) { Checks.due(what, got, want); }
    static void outside(String what, Checks.Call call) { Checks.outside(what, call); }
    static void illegal(String what, Checks.Call call) { Checks.illegal(what, call); }
    static void full(String what, Checks.Call call) { Checks.full(what, call); }

    static DrystoneSimnet boxes(int... kinds) {
        DrystoneSimnet x = new DrystoneSimnet();
        for (int kind : kinds) x.box(kind);
        return x;
    }
    static int port(int box, int own) { return 4 * box + own; }
    static void fate(String what, DrystoneSimnet x, int packet, int fate, int where, int source) {
        due(what + ": fate", x.fate(packet), fate);
        due(what + ": where", x.where(packet), where);
        due(what + ": source", x.source(packet), source);
    }

    /** Host 0 with 1/3, router 1 with 2/3 and 9/3, host 2 with 10/3, all in a row. */
    static DrystoneSimnet row() {
        DrystoneSimnet x = boxes(HOST, ROUTER, HOST);
        x.cable(port(0, 0), port(1, 0));
        x.cable(port(1, 1), port(2, 0));
        x.address(port(0, 0), 1, 3);
        x.address(port(1, 0), 2, 3);
        x.address(port(1, 1), 9, 3);
        x.address(port(2, 0), 10, 3);
        x.gateway(0, 2);
        x.gateway(2, 9);
        return x;
    }

    /** Two hosts, 0 with 1/3 and 1 with 2/3, on bridge 2 at its ports 0 and 1. */
    static DrystoneSimnet pair() {
        DrystoneSimnet x = boxes(HOST, HOST, BRIDGE);
        x.cable(port(0, 0), port(2, 0));
        x.cable(port(1, 0), port(2, 1));
        x.address(port(0, 0), 1, 3);
        x.address(port(1, 0), 2, 3);
        return x;
    }

    /** Routers in a chain: the link from router i, by its port 1, to the next one, by its port 0, is 4i/4, with 4i and 4i + 1. */
    static DrystoneSimnet chain(int many) {
        DrystoneSimnet x = new DrystoneSimnet();
        for (int i = 0; i < many; i++) x.box(ROUTER);
        for (int i = 0; i + 1 < many; i++) {
            x.cable(port(i, 1), port(i + 1, 0));
            x.address(port(i, 1), 4 * i, 4);
            x.address(port(i + 1, 0), 4 * i + 1, 4);
        }
        return x;
    }

    /** Host 0 with 1/2 and host 4 with 3/2 on bridge 3, router 1 with 2/2 and 33/2, host 2 with 34/2. */
    static DrystoneSimnet shared() {
        DrystoneSimnet x = boxes(HOST, ROUTER, HOST, BRIDGE, HOST);
        x.cable(port(0, 0), port(3, 0));
        x.cable(port(4, 0), port(3, 1));
        x.cable(port(1, 0), port(3, 2));
        x.cable(port(1, 1), port(2, 0));
        x.address(port(0, 0), 1, 2);
        x.address(port(4, 0), 3, 2);
        x.address(port(1, 0), 2, 2);
        x.address(port(1, 1), 33, 2);
        x.address(port(2, 0), 34, 2);
        x.gateway(0, 2);
        x.gateway(4, 2);
        x.gateway(2, 33);
        return x;
    }
}

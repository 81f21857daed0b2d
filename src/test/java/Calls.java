/** The calls of the face by their numbers, so that tests may choose among them. */
class Calls {
    static final String[] NAMES = {"box", "cable", "turn", "isBlocked", "net", "sees", "address", "gateway", "route", "rule",
        "watch", "pool", "send", "tick", "fate", "where", "source", "frames", "noted", "learnt", "reach", "reachAnew", "proved", "way"};
    static final int BOX = 0, CABLE = 1, TURN = 2, BLOCKED = 3, NET = 4, SEES = 5, ADDRESS = 6, GATEWAY = 7, ROUTE = 8, RULE = 9,
        WATCH = 10, POOLS = 11, SEND = 12, TICK = 13, FATE = 14, WHERE = 15, SOURCE = 16, FRAMES = 17, NOTED = 18, LEARNT = 19,
        REACH = 20, ANEW = 21, PROVED = 22, WAY = 23;
    static final int[] ARGUMENTS = {1, 2, 1, 1, 2, 2, 3, 2, 4, 7, 2, 3, 3, 1, 1, 1, 1, 0, 2, 3, 2, 2, 3, 4};

    static long ask(DrystoneSimnet x, int op, int... a) {
        switch (op) {
            case BOX: return x.box(a[0]);
            case CABLE: return x.cable(a[0], a[1]);
            case TURN: return x.turn(a[0]) ? 1 : 0;
            case BLOCKED: return x.isBlocked(a[0]) ? 1 : 0;
            case NET: return x.net(a[0], a[1]);
            case SEES: return x.sees(a[0], a[1]) ? 1 : 0;
            case ADDRESS: return x.address(a[0], a[1], a[2]);
            case GATEWAY: return x.gateway(a[0], a[1]);
            case ROUTE: return x.route(a[0], a[1], a[2], a[3]);
            case RULE: return x.rule(a[0], a[1], a[2], a[3], a[4], a[5], a[6] != 0);
            case WATCH: return x.watch(a[0], a[1] != 0) ? 1 : 0;
            case POOLS: return x.pool(a[0], a[1], a[2]);
            case SEND: return x.send(a[0], a[1], a[2]);
            case TICK: return x.tick(a[0]);
            case FATE: return x.fate(a[0]);
            case WHERE: return x.where(a[0]);
            case SOURCE: return x.source(a[0]);
            case FRAMES: return x.frames();
            case NOTED: return x.noted(a[0], a[1]);
            case LEARNT: return x.learnt(a[0], a[1], a[2]);
            case REACH: return x.reach(a[0], a[1]);
            case ANEW: return x.reachAnew(a[0], a[1]);
            case PROVED: return x.proved(a[0], a[1], a[2]);
            default: return x.way(a[0], a[1], a[2], a[3]);
        }
    }

    /** The answer, or what was thrown. */
    static String answer(DrystoneSimnet x, int op, int... a) {
        try {
            return String.valueOf(ask(x, op, a));
        } catch (RuntimeException e) {
            return "throws." + e.getClass().getSimpleName();
        }
    }
}

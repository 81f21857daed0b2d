import java.util.ArrayList;
import java.util.Arrays;
import java.util.List;

/**
 * Calls that are refused: each throws what its throws clause names first, and changes nothing. That nothing is changed
 * is seen by asking everything, and by going on, on an object that met the refused calls and on one that did not.
 */
public final class RefusedTest extends Calls {
    private static final int HOST = 0, BRIDGE = 1, ROUTER = 2, TRUNK = 4;
    private static final int LEAST = Integer.MIN_VALUE, MOST = Integer.MAX_VALUE;
    private static final int FINE = 0, NO_SUCH = 1, NOT_MEANT = 2, NO_ROOM = 3;
    private static final String[] THROWN = {"", "throws.IndexOutOfBoundsException", "throws.IllegalArgumentException",
        "throws.IllegalStateException"};
    /** So many refused calls on one object leave room, of its 512 calls, to make its net and to look at it. */
    private static final int AT_ONCE = 100;
    private static final int LOOKS = 7;

    /** What an argument may be: what is fine, what there is none of, and what is out of range or of another kind. */
    private record Values(int[] fine, int[] noSuch, int[] notMeant) {
        int[] of(int tag) { return tag == FINE ? fine : tag == NO_SUCH ? noSuch : notMeant; }
    }
    private record Refused(int op, int[] arguments, String due) { }

    private static int[] some(int... all) { return all; }
    private static Values values(int[] fine, int[] notMeant) { return new Values(fine, some(), notMeant); }

    private static final Values KIND = values(some(0, 1, 2), some(-1, 3, LEAST, MOST));
    private static final Values NETS = values(some(1, 0, 3, TRUNK), some(-1, 5, LEAST, MOST));
    private static final Values ADDRESSES = values(some(0, 63), some(-1, 64, LEAST, MOST));
    private static final Values ADDRESS_OR_NONE = values(some(-1, 0, 63), some(-2, 64, LEAST, MOST));
    private static final Values LENGTH = values(some(1, 6), some(0, 7, -1, LEAST, MOST));
    private static final Values LENGTH_OR_0 = values(some(0, 6), some(-1, 7, LEAST, MOST));
    private static final Values SERVICE = values(some(0, 3), some(-1, 4, LEAST, MOST));
    private static final Values SERVICE_OR_ALL = values(some(-1, 0, 3), some(-2, 4, LEAST, MOST));
    private static final Values MANY = values(some(0, 4), some(-1, 5, LEAST, MOST));
    private static final Values TICKS = values(some(1, 30), some(0, 31, -1, LEAST, MOST));
    private static final Values YES_OR_NO = values(some(0, 1), some());
    private static final Values PLACE = new Values(some(0, MOST), some(-1, LEAST), some());

    private static final int[] STATIONS = {0, 8, 9, 10, 12, 20, 21, 22, 24};
    private static final int[] BRIDGED = {4, 5, 6, 7, 16, 17, 18, 19, 28, 31};
    private static final int[] ROUTERS = {2, 5}, HOSTS = {0, 3, 6}, BRIDGES = {1, 4, 7};
    private static final int[] ENDS = {0, 4, 5, 8, 6, 16, 7, 17, 18, 12, 9, 20, 21, 24, 10, 22};
    private static final int CABLES = ENDS.length / 2;

    /** With 10 boxes, 6 told routes, 8 rules and 60 packets, or with room for more of all. */
    private final boolean isFull;
    private final int packets;

    private RefusedTest(boolean isFull) {
        this.isFull = isFull;
        packets = isFull ? 60 : 6;
    }

    /**
     * Hosts 0 and 3 on the bridges 1 and 4, which two cables join; routers 2 and 5 behind them, with one cable that is
     * whole and a broken one; host 6 at the far end. Router 2 translates, both watch, host 6 is let in by replies alone.
     * Packets are where they end, and on their way.
     */
    private DrystoneSimnet busy() {
        DrystoneSimnet x = new DrystoneSimnet();
        for (int kind : some(HOST, BRIDGE, ROUTER, HOST, BRIDGE, ROUTER, HOST, BRIDGE)) x.box(kind);
        for (int i = 0; i < CABLES; i++) x.cable(ENDS[2 * i], ENDS[2 * i + 1]);
        x.turn(7);
        x.net(6, TRUNK);
        x.net(16, TRUNK);
        int[] addresses = {0, 1, 12, 3, 8, 2, 9, 9, 20, 10, 21, 17, 24, 18, 22, 33};
        for (int i = 0; i < addresses.length; i += 2) x.address(addresses[i], addresses[i + 1], 3);
        x.gateway(0, 2);
        x.gateway(3, 2);
        x.gateway(6, 17);
        x.route(2, 40, 3, 10);
        x.route(5, 48, 3, 9);
        x.rule(2, 18, 6, 0, 0, -1, false);
        x.watch(2, true);
        x.watch(5, true);
        x.pool(9, 50, 2);
        x.tick(5);
        if (isFull) fill(x);
        x.send(0, 18, 1);
        x.tick(6);
        x.send(3, 40, 0);
        x.send(6, 50, 1);
        x.tick(1);
        x.send(3, 18, 2);
        x.send(0, 60, 3);
        x.send(6, 50, 2);
        return x;
    }
    private void fill(DrystoneSimnet x) {
        x.box(HOST);
        x.box(ROUTER);
        for (int i = 0; i < 5; i++) x.route(2, 60 - i, 5, 10);
        for (int i = 0; i < 7; i++) x.rule(2, i, 6, 20 + i, 6, i % 4, i % 2 == 0);
        for (int i = 6; i < packets; i++) x.send(i % 3 * 3, 16 + i % 6, i % 4);
        x.tick(8);
    }

    private Values boxesOf(int[] fine, int... notMeant) {
        return new Values(fine, isFull ? some(-1, 10, 11, LEAST, MOST) : some(-1, 8, 10, LEAST, MOST), notMeant);
    }
    private Values portsOf(int[] fine, int... notMeant) {
        int[] none = isFull ? some(-1, 1, 3, 11, 33, 39, 40, LEAST, MOST) : some(-1, 1, 3, 11, 32, 40, LEAST, MOST);
        return new Values(fine, none, notMeant);
    }
    private Values cables() { return new Values(some(0, CABLES - 1), some(-1, CABLES, 16, LEAST, MOST), some()); }
    private Values packetNumbers() { return new Values(some(0, packets - 1), some(-1, packets, 61, LEAST, MOST), some()); }

    private Values[] argumentsOf(int op) {
        Values host = boxesOf(some(0, 6), 1, 2, 4, 5), router = boxesOf(some(2, 5), 0, 1), bridge = boxesOf(some(1, 7), 0, 2);
        Values station = portsOf(some(0, 10, 24), 4, 7), bridged = portsOf(some(4, 19), 0, 8, 24);
        switch (op) {
            case BOX: return new Values[] {KIND};
            case CABLE: return new Values[] {portsOf(some(28)), portsOf(some(19))};
            case TURN: case BLOCKED: return new Values[] {cables()};
            case NET: return new Values[] {bridged, NETS};
            case SEES: return new Values[] {station, portsOf(some(8, 12), 4, 7)};
            case ADDRESS: return new Values[] {station, ADDRESSES, LENGTH};
            case GATEWAY: return new Values[] {host, ADDRESS_OR_NONE};
            case ROUTE: return new Values[] {router, ADDRESSES, LENGTH_OR_0, ADDRESSES};
            case RULE: return new Values[] {router, ADDRESSES, LENGTH_OR_0, ADDRESSES, LENGTH_OR_0, SERVICE_OR_ALL, YES_OR_NO};
            case WATCH: return new Values[] {router, YES_OR_NO};
            case POOLS: return new Values[] {portsOf(some(9, 22), 0, 7), ADDRESSES, MANY};
            case SEND: case PROVED: return new Values[] {host, ADDRESSES, SERVICE};
            case TICK: return new Values[] {TICKS};
            case FATE: case WHERE: case SOURCE: return new Values[] {packetNumbers()};
            case FRAMES: return new Values[] {};
            case NOTED: return new Values[] {bridge, station};
            case LEARNT: return new Values[] {router, ADDRESSES, LENGTH};
            case REACH: case ANEW: return new Values[] {host, boxesOf(some(0, 1, 2))};
            default: return new Values[] {host, ADDRESSES, SERVICE, PLACE};
        }
    }

    /** One argument that is not fine, or two, in all ways; the others are as fine as they get. */
    private void refuseByArguments(int op, List<Refused> all) {
        Values[] arguments = argumentsOf(op);
        for (int i = 0; i < arguments.length; i++) for (int tag = NO_SUCH; tag <= NOT_MEANT; tag++) for (int value : arguments[i].of(tag)) {
            for (int pick = 0; pick < 2; pick++) {
                int[] a = fine(arguments, pick);
                a[i] = value;
                all.add(new Refused(op, a, THROWN[tag]));
            }
            for (int j = 0; j < i; j++) for (int other = NO_SUCH; other <= NOT_MEANT; other++) for (int second : arguments[j].of(other)) {
                int[] a = fine(arguments, value & 1);
                a[i] = value;
                a[j] = second;
                all.add(new Refused(op, a, THROWN[Math.min(tag, other)]));
            }
        }
    }
    private static int[] fine(Values[] arguments, int pick) {
        int[] a = new int[arguments.length];
        for (int i = 0; i < a.length; i++) a[i] = arguments[i].fine[pick == 0 ? 0 : arguments[i].fine.length - 1];
        return a;
    }

    private static void refuse(List<Refused> all, int op, int why, int... a) { all.add(new Refused(op, a, THROWN[why])); }

    /** What is refused by two arguments together, or by what is there. */
    private void refuseByState(int op, List<Refused> all) {
        if (op == CABLE) refuseCables(all);
        for (int port : STATIONS) if (op == SEES) refuse(all, op, NOT_MEANT, port, port);
        if (op == SEES) refuse(all, op, NO_SUCH, 1, 1);
        if (op == SEES) refuse(all, op, NOT_MEANT, 7, 7);
        if (op == POOLS) for (int i = 1; i <= 3; i++) refuse(all, op, NOT_MEANT, 9, 60 + i, 5 - i);
        if (op == BOX && isFull) for (int kind = HOST; kind <= ROUTER; kind++) refuse(all, op, NO_ROOM, kind);
        if (op == ROUTE && isFull) for (int v = 0; v < 64; v += 7) refuse(all, op, NO_ROOM, 2, v, v % 7, 63 - v);
        if (op == RULE && isFull) for (int v = 0; v < 64; v += 7) refuse(all, op, NO_ROOM, 2, v, v % 7, 63 - v, v % 7, v % 5 - 1, v % 2);
        if (op == SEND && isFull) for (int v = 0; v < 64; v += 7) refuse(all, op, NO_ROOM, v % 3 * 3, v, v % 4);
    }
    /** Ports of one box go ahead of ports that have a cable, be it a broken one. */
    private void refuseCables(List<Refused> all) {
        for (int i = 0; i < ENDS.length; i++) for (int free : some(19, 28, 29, 30, 31)) {
            refuse(all, CABLE, ENDS[i] / 4 == free / 4 ? NOT_MEANT : NO_ROOM, ENDS[i], free);
            refuse(all, CABLE, ENDS[i] / 4 == free / 4 ? NOT_MEANT : NO_ROOM, free, ENDS[i]);
        }
        for (int i = 0; i + 1 < ENDS.length; i++) {
            refuse(all, CABLE, ENDS[i] / 4 == ENDS[i + 1] / 4 ? NOT_MEANT : NO_ROOM, ENDS[i], ENDS[i + 1]);
            refuse(all, CABLE, NOT_MEANT, ENDS[i], ENDS[i]);
        }
        refuse(all, CABLE, NOT_MEANT, 28, 31);
        refuse(all, CABLE, NOT_MEANT, 19, 19);
    }

    private static String ask(DrystoneSimnet x, int op, int[] firsts, int[] seconds) {
        StringBuilder s = new StringBuilder(NAMES[op]);
        for (int first : firsts) for (int second : seconds) s.append(' ').append(answer(x, op, first, second));
        return s.append('\n').toString();
    }
    private static String each(DrystoneSimnet x, int op, int many) {
        StringBuilder s = new StringBuilder(NAMES[op]);
        for (int i = 0; i < many; i++) s.append(' ').append(answer(x, op, i));
        return s.append('\n').toString();
    }

    private String look(DrystoneSimnet x, int which) {
        StringBuilder s = new StringBuilder();
        switch (which) {
            case 0: return s.append(each(x, BLOCKED, 16)).append(ask(x, SEES, STATIONS, STATIONS)).append(x.frames()).toString();
            case 1: return s.append(each(x, FATE, packets)).append(each(x, WHERE, packets)).append(each(x, SOURCE, packets))
                .append(ask(x, NOTED, BRIDGES, STATIONS)).toString();
            case 2:
                for (int length = 1; length <= 6; length++) for (int v = 0; v < 64; v += 1 << (6 - length))
                    for (int router : ROUTERS) s.append(' ').append(answer(x, LEARNT, router, v, length));
                return s.toString();
            case 3:
                for (int v = 0; v < 64; v++) for (int host : HOSTS) s.append(' ').append(answer(x, PROVED, host, v, v % 4));
                return s.toString();
            case 4: return s.append(ask(x, REACH, HOSTS, some(0, 1, 2, 3, 4, 5, 6, 7))).append(ask(x, ANEW, HOSTS, some(0, 2, 5, 6)))
                .append(answer(x, WAY, 0, 18, 2, 0)).append(answer(x, WAY, 0, 18, 2, 1)).toString();
            case 5: return s.append(tell(x)).toString();
            default: return s.append(goOn(x)).toString();
        }
    }
    /** What was told before is what these calls answer. */
    private static String tell(DrystoneSimnet x) {
        StringBuilder s = new StringBuilder();
        for (int host : HOSTS) s.append(' ').append(answer(x, GATEWAY, host, -1));
        for (int port : STATIONS) s.append(' ').append(answer(x, ADDRESS, port, 5, 2));
        for (int port : BRIDGED) s.append(' ').append(answer(x, NET, port, 1));
        for (int port : some(8, 9, 10, 20, 21, 22)) s.append(' ').append(answer(x, POOLS, port, 0, 0));
        for (int router : ROUTERS) s.append(' ').append(answer(x, WATCH, router, 0)).append(' ').append(answer(x, ROUTE, router, 0, 0, 0))
            .append(' ').append(answer(x, RULE, router, 0, 0, 0, 0, 0, 1));
        s.append(' ').append(answer(x, CABLE, 28, 19)).append(each(x, TURN, 16)).append(each(x, BLOCKED, 16));
        s.append(' ').append(answer(x, SEND, 0, 5, 0)).append(each(x, BOX, 4)).append(answer(x, TICK, 1)).append(x.frames());
        return s.toString();
    }
    /** Packets go on by what routers noted, by pools and by the notes of bridges. */
    private String goOn(DrystoneSimnet x) {
        StringBuilder s = new StringBuilder();
        for (int tick = 0; tick < 36; tick++) {
            if (tick % 9 == 0) s.append(' ').append(answer(x, SEND, 6, 50, 1)).append(' ').append(answer(x, SEND, 3, 18, 1));
            s.append(' ').append(answer(x, TICK, 1)).append(' ').append(x.frames());
        }
        for (int p = 0; p < packets + 8 && p < 60; p++) s.append(' ').append(answer(x, FATE, p)).append(answer(x, SOURCE, p));
        return s.append(ask(x, NOTED, BRIDGES, STATIONS)).toString();
    }

    private void changesNothing(List<Refused> those, int op) {
        for (int look = 0; look < LOOKS; look++) {
            DrystoneSimnet met = busy(), spared = busy();
            for (Refused r : those) {
                String got = answer(met, r.op, r.arguments);
                String what = NAMES[r.op] + Arrays.toString(r.arguments) + " answers " + got + " instead of " + r.due;
                Checks.due(what, got.equals(r.due), true);
            }
            String changed = look(met, look), unchanged = look(spared, look);
            Checks.due("refused calls of " + NAMES[op] + " change nothing, look " + look, changed.equals(unchanged), true);
        }
    }

    /** The looks tell something: what they show is not the same in another net. */
    private void looksTell() {
        for (int look = 0; look < LOOKS; look++) {
            DrystoneSimnet x = busy();
            x.turn(5);
            x.turn(2);
            x.net(18, 2);
            x.gateway(6, 63);
            x.tick(1);
            Checks.due("look " + look + " tells", look(x, look).equals(look(busy(), look)), false);
        }
    }

    private void run() {
        looksTell();
        for (int op = 0; op < NAMES.length; op++) {
            List<Refused> all = new ArrayList<>();
            refuseByArguments(op, all);
            refuseByState(op, all);
            for (int from = 0; from < all.size(); from += AT_ONCE) changesNothing(all.subList(from, Math.min(from + AT_ONCE, all.size())), op);
        }
    }

    /** Ten bridges with all 16 cables: ports that are free are refused, too, but not ahead of those of one box. */
    private static void allCables() {
        DrystoneSimnet x = new DrystoneSimnet();
        for (int i = 0; i < 10; i++) x.box(BRIDGE);
        for (int i = 0; i < 16; i++) Checks.due("cable " + i, x.cable(i / 4 * 4 + i % 4, 39 - i), i);
        x.turn(15);
        for (int p = 16; p < 24; p++) for (int q = 16; q < 24; q++) {
            String due = p / 4 == q / 4 ? THROWN[NOT_MEANT] : THROWN[NO_ROOM], got = answer(x, CABLE, p, q);
            Checks.due("the seventeenth, " + p + " to " + q + ", answers " + got, got.equals(due), true);
        }
        Checks.due("no port goes ahead", answer(x, CABLE, 16, 40).equals(THROWN[NO_SUCH]), true);
        Checks.due("there is no cable 16", answer(x, TURN, 16).equals(THROWN[NO_SUCH]), true);
        Checks.due("nor blocked", answer(x, BLOCKED, 16).equals(THROWN[NO_SUCH]), true);
        Checks.due("cable 15 is there", answer(x, TURN, 15).equals("0"), true);
    }

    public static void main(String[] args) {
        new RefusedTest(false).run();
        new RefusedTest(true).run();
        allCables();
        Checks.end("RefusedTest");
    }
}

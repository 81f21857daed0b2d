import java.util.ArrayList;
import java.util.Arrays;
import java.util.List;
import java.util.Random;

/** Random runs of calls, whose answers are those of the model; the seeds are fixed, so that each run is the same again. */
public final class AgainstModelTest extends Calls {
    private final long seed;
    private final Random random;
    private final DrystoneSimnet program = new DrystoneSimnet();
    private final Model model = new Model();
    private final List<String> trace = new ArrayList<>();
    private boolean wrong;
    private final List<Integer> kinds = new ArrayList<>();
    private int calls;
    /** A sensible net hangs together, and each of its parts has a prefix and addresses of its own. */
    private boolean sensible;
    private static final long[] FATES = new long[9];
    private static final long[] PROOFS = new long[9];
    private static final long[] THROWN = new long[24];
    private static long replies, translated, mostFrames, farthest, reached, takenLearnt;

    private AgainstModelTest(long seed) { this.seed = seed; random = new Random(seed); }

    private static long ask(Model x, int op, int[] a) {
        switch (op) {
            case BOX: return x.box(a[0]);
            case CABLE: return x.cable(a[0], a[1]);
            case TURN: return x.turn(a[0]) ? 1 : 0;
            case BLOCKED: return x.isBlocked(a[0]) ? 1 : 0;
            case NET: return x.net(a[0], a[1]);
            case SEES: return x.sees(a[0], a[1]) ? 1 : 0;
            case ADDRESS: return x.address(a[0], a[1], a[2]);
            case GATEWAY: return x.gateway(a[0], a[1]);
            case ROUTE: return x.route(a[0], a[1], a[2], a[3]);
            case RULE: return x.rule(a[0], a[1], a[2], a[3], a[4], a[5], a[6] != 0);
            case WATCH: return x.watch(a[0], a[1] != 0) ? 1 : 0;
            case POOLS: return x.pool(a[0], a[1], a[2]);
            case SEND: return x.send(a[0], a[1], a[2]);
            case TICK: return x.tick(a[0]);
            case FATE: return x.fate(a[0]);
            case WHERE: return x.where(a[0]);
            case SOURCE: return x.source(a[0]);
            case FRAMES: return x.frames();
            case NOTED: return x.noted(a[0], a[1]);
            case LEARNT: return x.learnt(a[0], a[1], a[2]);
            case REACH: case ANEW: return x.reach(a[0], a[1]);
            case PROVED: return x.proved(a[0], a[1], a[2]);
            default: return x.way(a[0], a[1], a[2], a[3]);
        }
    }

    private static String answer(Model x, int op, int[] a) {
        try {
            return String.valueOf(ask(x, op, a));
        } catch (RuntimeException e) {
            return "throws." + e.getClass().getSimpleName();
        }
    }

    /** Makes the call on both; the answer, or NONE if it throws. */
    private int call(int op, int... a) {
        if (wrong || calls >= 512) return -1;
        calls++;
        String due = answer(model, op, a);
        String got = answer(program, op, a);
        trace.add(NAMES[op] + Arrays.toString(a) + " answered " + got);
        if (!due.equals(got)) {
            wrong = true;
            System.out.println("seed " + seed + ", call " + calls + ": " + trace.get(trace.size() - 1) + ", due is " + due);
            if (Boolean.getBoolean("trace")) trace.forEach(System.out::println);
        }
        if (due.startsWith("throws")) { THROWN[op]++; return -1; }
        return Integer.parseInt(due);
    }

    private int any(int many) { return random.nextInt(many); }
    private boolean chance(int percent) { return any(100) < percent; }
    private int oneOf(int... all) { return all[any(all.length)]; }

    private int addBox(int kind) {
        int number = call(BOX, kind);
        if (number >= 0) kinds.add(kind);
        return number;
    }
    private int boxOf(int kind) {
        List<Integer> found = new ArrayList<>();
        for (int i = 0; i < kinds.size(); i++) if (kinds.get(i) == kind) found.add(i);
        return found.isEmpty() ? any(10) : found.get(any(found.size()));
    }
    private int portsOf(int box) { return kinds.get(box) == Model.HOST ? 1 : kinds.get(box) == Model.BRIDGE ? 4 : 3; }
    private int portOf(int box) { return box < kinds.size() ? 4 * box + any(portsOf(box)) : any(40); }
    private int station() { return portOf(boxOf(chance(50) ? Model.HOST : Model.ROUTER)); }
    private int usedAddress() {
        List<Integer> found = new ArrayList<>();
        for (Model.Port p : model.ports) {
            if (p.address != Model.NONE) found.add(p.address);
            if (p.many > 0 && chance(50)) found.add(p.from + any(p.many));
        }
        return found.isEmpty() || chance(10) ? any(64) : found.get(any(found.size()));
    }

    private void buildBoxes() {
        sensible = chance(60);
        int[][] styles = {{3, 3, 3}, {2, 0, 8}, {5, 4, 1}, {1 + any(4), any(4), 1 + any(3)}, {2, 6, 2}, {4, 2, 4}, {6, 2, 2}, {3, 1, 4}};
        int[] many = styles[any(styles.length)];
        List<Integer> all = new ArrayList<>();
        for (int kind = 0; kind < 3; kind++) for (int i = 0; i < many[kind]; i++) all.add(kind);
        java.util.Collections.shuffle(all, random);
        for (int kind : all) addBox(kind);
        int cables = sensible ? 9 + any(5) : 4 + any(13);
        for (int b = 1; sensible && b < kinds.size(); b++) {
            for (int i = 0; i < 40 && !hangs(b); i++) {
                int a = freePortOf(b), c = freePort();
                if (a >= 0 && c >= 0 && c / 4 < b) call(CABLE, a, c);
            }
        }
        for (int i = 0; i < 60 && model.cables.size() < cables; i++) {
            int a = freePort(), b = freePort();
            if (a >= 0 && b >= 0 && a / 4 != b / 4) call(CABLE, a, b);
        }
        if (chance(30)) for (int i = 0; i < 6; i++) call(NET, portOf(boxOf(Model.BRIDGE)), oneOf(0, 1, 2, 4, 4));
    }
    private boolean hangs(int box) {
        for (Model.Cable c : model.cables) if (c.a / 4 == box || c.b / 4 == box) return true;
        return false;
    }
    private int freePortOf(int box) {
        for (int i = 0; i < portsOf(box); i++) if (model.cableOf(4 * box + i) == Model.NONE) return 4 * box + i;
        return -1;
    }
    private int freePort() {
        for (int i = 0; i < 20; i++) {
            int p = portOf(any(kinds.size()));
            if (model.cableOf(p) == Model.NONE) return p;
        }
        return -1;
    }

    /** Ports that hang together get addresses of one prefix, mostly. */
    private void giveAddresses() {
        int[] lan = new int[40];
        for (int i = 0; i < 40; i++) lan[i] = i / 4 < kinds.size() && kinds.get(i / 4) == Model.BRIDGE ? 100 + i / 4 : i;
        for (int round = 0; round < 20; round++) for (Model.Cable c : model.cables) {
            int low = Math.min(lan[c.a], lan[c.b]), high = Math.max(lan[c.a], lan[c.b]);
            for (int i = 0; i < 40; i++) if (lan[i] == high) lan[i] = low;
        }
        int[] base = new int[120], length = new int[120];
        for (int i = 0; i < 120; i++) { length[i] = oneOf(2, 3, 3, 4, 4, 5); base[i] = any(64); }
        int[] given = new int[120];
        int block = any(8);
        for (int i = 0; sensible && i < 120; i++) {
            boolean used = false;
            for (int p = 0; p < 40; p++) used |= lan[p] == i && model.isPort(p) && kinds.get(p / 4) != Model.BRIDGE && model.cableOf(p) >= 0;
            if (used) { length[i] = 3; base[i] = 8 * (block++ % 8); }
        }
        for (int p = 0; p < 40; p++) {
            if (!model.isPort(p) || kinds.get(p / 4) == Model.BRIDGE || chance(sensible ? 2 : 8)) continue;
            if (sensible && model.cableOf(p) < 0) continue;
            int size = 64 >> length[lan[p]];
            int address = sensible ? base[lan[p]] + given[lan[p]]++ % 8 : chance(8) ? any(64) : base[lan[p]] / size * size + any(Math.min(size, 6));
            call(ADDRESS, p, address, !sensible && chance(10) ? 1 + any(6) : length[lan[p]]);
        }
        for (int b = 0; b < kinds.size(); b++) {
            if (kinds.get(b) != Model.HOST) continue;
            List<Integer> near = new ArrayList<>();
            for (int p = 0; p < 40; p++) if (lan[p] == lan[4 * b] && p != 4 * b && model.ports[p].address >= 0
                && (kinds.get(p / 4) == Model.ROUTER || chance(10))) near.add(model.ports[p].address);
            if (!near.isEmpty()) call(GATEWAY, b, near.get(any(near.size())));
            else if (chance(20)) call(GATEWAY, b, any(64));
        }
    }

    /** Routers in a ring, hosts at some, and told routes that lead one address round and round. */
    private void buildRing() {
        int routers = 3 + any(6);
        for (int i = 0; i < routers; i++) addBox(Model.ROUTER);
        for (int i = 0; i < routers; i++) {
            int next = (i + 1) % routers;
            call(CABLE, 4 * i + 1, 4 * next);
            call(ADDRESS, 4 * i + 1, 4 * i, 4);
            call(ADDRESS, 4 * next, 4 * i + 1, 4);
        }
        for (int i = 0; i < 4 && kinds.size() < 10; i++) {
            int router = any(routers), host = addBox(Model.HOST);
            if (model.cableOf(4 * router + 2) != Model.NONE) continue;
            call(CABLE, 4 * router + 2, 4 * host);
            call(ADDRESS, 4 * router + 2, 32 + 4 * i, 4);
            call(ADDRESS, 4 * host, 33 + 4 * i, 4);
            call(GATEWAY, host, 32 + 4 * i);
        }
        int round = chance(20) ? usedAddress() : any(64);
        for (int i = 0; i < routers; i++) if (chance(98)) call(ROUTE, i, round, oneOf(0, 3, 6, 6), 4 * i + 1);
        for (int host = routers; host < kinds.size(); host++) {
            call(SEND, host, round, any(4));
            prove(host, round, any(4));
            for (int place = 0; place < 9; place++) call(WAY, host, round, any(4), place);
        }
    }

    /** Hosts on a bridge, behind a router that has a pool at its other port, another router and a host that answers. */
    private void buildPools() {
        for (int i = 0; i < 3; i++) addBox(Model.HOST);
        addBox(Model.BRIDGE);
        addBox(Model.ROUTER);
        addBox(Model.ROUTER);
        addBox(Model.HOST);
        for (int i = 0; i < 4; i++) {
            int port = i < 3 ? 4 * i : 16;
            call(CABLE, port, 12 + i);
            call(ADDRESS, port, 9 + i, 3);
            if (i < 3) call(GATEWAY, i, 12);
        }
        call(CABLE, 17, 20);
        call(ADDRESS, 17, 17, 3);
        call(ADDRESS, 20, 18, 3);
        call(CABLE, 21, 24);
        call(ADDRESS, 21, 25, 3);
        call(ADDRESS, 24, 26, 3);
        call(GATEWAY, 6, 25);
        call(POOLS, 17, 19 + any(3), 1 + any(3));
        if (chance(40)) call(POOLS, 21, 27 + any(3), 1 + any(2));
        if (chance(50)) call(WATCH, 4, 1);
        call(TICK, 2);
        for (int i = 0; i < 3; i++) if (chance(80)) call(SEND, i, 26, any(2));
    }

    private void tellRouter() {
        int r = boxOf(Model.ROUTER);
        switch (any(6)) {
            case 0: call(ROUTE, r, usedAddress(), oneOf(0, 0, 2, 3, 4, 6, any(7)), usedAddress()); break;
            case 1: call(RULE, r, usedAddress(), oneOf(0, 0, 3, 4, 6), usedAddress(), oneOf(0, 0, 3, 4, 6), oneOf(-1, -1, any(4)), any(3) == 0 ? 1 : 0); break;
            case 2: call(WATCH, r, any(4) == 0 ? 0 : 1); break;
            case 3: call(POOLS, portOf(r), any(61), oneOf(0, 1, 1, 1, 2, 3, 4)); break;
            case 4: call(RULE, r, usedAddress(), oneOf(3, 4, 6), usedAddress(), oneOf(3, 4, 6), any(4), 1); break;
            default: tellTheNext(r); break;
        }
    }

    /** A router's port comes into a prefix that the router has learnt, so that this is its own, for a while or for good. */
    private void takeLearnt() {
        int router = boxOf(Model.ROUTER);
        if (router >= kinds.size() || model.boxes.get(router).learnt.isEmpty()) return;
        List<String> all = new ArrayList<>(model.boxes.get(router).learnt.keySet());
        String bits = all.get(any(all.size()));
        int spare = 6 - bits.length(), address = (Integer.parseInt(bits, 2) << spare) + any(1 << spare);
        int port = portOf(router), before = model.ports[port].address, length = model.ports[port].length;
        call(ADDRESS, port, address, bits.length());
        if (call(LEARNT, router, address, bits.length()) == Model.NONE) takenLearnt++;
        askSome();
        if (before != Model.NONE && chance(60)) {
            if (chance(50)) call(TICK, 1 + any(2));
            call(ADDRESS, port, before, length);
        }
        call(LEARNT, router, address, bits.length());
    }

    private void turnOne() {
        int cable = any(Math.max(1, model.cables.size()));
        for (int c = 0; c < model.cables.size() && chance(60); c++) if (model.cables.get(c).broken) cable = c;
        call(TURN, cable);
    }

    /** A short route by a neighbour, so that packets go round. */
    private void tellTheNext(int router) {
        List<Integer> near = new ArrayList<>();
        for (int p = 0; p < 40; p++) for (int own = 4 * router; own < 4 * router + 3; own++) {
            if (model.ports[p].address >= 0 && model.isPort(own) && model.isPort(p) && model.view(own, p)) near.add(model.ports[p].address);
        }
        call(ROUTE, router, usedAddress(), oneOf(0, 0, 1, 4, 6), near.isEmpty() ? any(64) : near.get(any(near.size())));
    }

    private void sendSome() {
        int many = chance(4) ? 30 : chance(10) ? 8 : 1 + any(2);
        if (model.packets.size() == 60 && chance(95)) return;
        int host = boxOf(Model.HOST), dest = usedAddress();
        boolean all = chance(15);
        for (int i = 0; i < (all ? kinds.size() : many); i++) {
            int packet;
            if (all && kinds.get(i) != Model.HOST) continue;
            if (all) packet = call(SEND, i, dest, any(4));
            else if (chance(30) && !model.packets.isEmpty()) packet = reply();
            else if (many == 30) packet = call(SEND, host, dest, any(4));
            else packet = call(SEND, boxOf(Model.HOST), usedAddress(), any(4));
            if (packet >= 0 && chance(50)) call(FATE, packet);
        }
        call(FRAMES);
        mostFrames = Math.max(mostFrames, model.frames.size());
    }
    private int reply() {
        int p = any(model.packets.size());
        Model.Packet packet = model.packets.get(p);
        if (packet.fate != Model.DELIVERED || packet.source == Model.NONE || kinds.get(packet.where) != Model.HOST) return -1;
        replies++;
        if (packet.source != model.ports[4 * packet.where].address) translated++;
        return call(SEND, packet.where, packet.source, packet.service);
    }

    private void askSome() {
        int packets = Math.max(1, model.packets.size());
        switch (any(12)) {
            case 0: call(BLOCKED, any(Math.max(1, model.cables.size()))); break;
            case 1: call(SEES, station(), station()); break;
            case 2: case 3: call(FATE, any(packets)); break;
            case 4: call(WHERE, any(packets)); break;
            case 5: call(SOURCE, any(packets)); break;
            case 6: call(NOTED, boxOf(Model.BRIDGE), station()); break;
            case 7: case 8: farthest = Math.max(farthest, call(LEARNT, boxOf(Model.ROUTER), usedAddress(), 1 + any(6))); break;
            case 9: {
                int host = boxOf(Model.HOST), to = any(kinds.size());
                reached += Math.max(0, call(REACH, host, to));
                call(ANEW, host, to);
                break;
            }
            case 10: prove(boxOf(Model.HOST), usedAddress(), any(4)); break;
            default: call(WAY, boxOf(Model.HOST), usedAddress(), any(4), any(4)); break;
        }
    }

    private void prove(int host, int dest, int service) {
        int answer = call(PROVED, host, dest, service);
        if (answer >= 0) PROOFS[answer / 10]++;
    }

    private void callWildly() {
        int op = any(24);
        int[] a = new int[ARGUMENTS[op]];
        int[] tops = {1, 3, 8, 12, 45, 70, 70};
        for (int i = 0; i < a.length; i++) a[i] = chance(5) ? oneOf(Integer.MIN_VALUE, Integer.MAX_VALUE, -2, 64, 65, 40, 41) : any(tops[any(7)]) - 1;
        if (op == BOX || op == WATCH && chance(50)) return;
        call(op, a);
    }

    private void buildAny() {
        buildBoxes();
        giveAddresses();
        for (int i = any(8); i > 0; i--) tellRouter();
    }

    private void run() {
        int shape = any(6);
        if (shape == 0) buildRing();
        else if (shape == 1) buildPools();
        else buildAny();
        if (chance(70)) call(TICK, 8);
        while (calls < 512 && !wrong) {
            int dice = any(100);
            if (dice < 12) sendSome();
            else if (dice < 50) call(TICK, chance(12) ? oneOf(18, 19, 20, 21, 28, 29, 30) : 1 + any(3));
            else if (dice < 55) turnOne();
            else if (dice < 57) call(NET, portOf(boxOf(Model.BRIDGE)), any(5));
            else if (dice < 58) call(ADDRESS, station(), usedAddress(), 1 + any(6));
            else if (dice < 59) takeLearnt();
            else if (dice < 63) tellRouter();
            else if (dice < 67) callWildly();
            else askSome();
        }
        for (Model.Packet p : model.packets) FATES[p.fate]++;
    }

    public static void main(String[] args) {
        int from = args.length > 0 ? Integer.parseInt(args[0]) : 1;
        int runs = args.length > 1 ? Integer.parseInt(args[1]) : 150;
        int wrong = 0;
        for (int seed = from; seed < from + runs; seed++) {
            AgainstModelTest test = new AgainstModelTest(seed);
            test.run();
            if (test.wrong) wrong++;
        }
        System.out.println("fates " + Arrays.toString(FATES) + ", proved " + Arrays.toString(PROOFS) + ", replies " + replies
            + ", to translated ones " + translated + ", most frames " + mostFrames + ", farthest " + farthest + ", headers reached " + reached
            + ", learnt prefixes that became own ones " + takenLearnt);
        System.out.println("thrown " + Arrays.toString(THROWN));
        System.out.println(runs + " runs, " + wrong + " with a wrong answer");
        if (wrong != 0 || args.length == 0 && !meetsAll()) System.exit(1);
    }

    /** Runs that meet nothing find nothing. */
    private static boolean meetsAll() {
        boolean all = replies > 0 && translated > 0 && takenLearnt > 0 && mostFrames == 64 && farthest >= 40000 && reached > 0;
        for (int fate = Model.DELIVERED; fate <= Model.LOST; fate++) {
            boolean proves = fate == Model.POOL || fate == Model.LOST || PROOFS[fate] > 0;
            if (FATES[fate] < 20 || !proves) System.out.println("too few packets met the fate " + fate);
            all &= FATES[fate] >= 20 && proves;
        }
        if (!all) System.out.println("the runs do not meet all that they should");
        return all;
    }
}

import java.util.ArrayList;
import java.util.HashMap;
import java.util.List;
import java.util.Map;
import java.util.TreeMap;

/**
 * The document told again in the plainest way, with nothing kept that can be found anew: each question is answered
 * from what was told. It shares no code and no way of holding the state with the program.
 */
final class Model {
    static final int NONE = -1, HOST = 0, BRIDGE = 1, ROUTER = 2, TRUNK = 4;
    static final int FLYING = 0, DELIVERED = 1, NO_ROUTE = 2, NO_ONE = 3, FILTERED = 4, OLD = 5, POOL = 6, WRONG = 7, LOST = 8;

    static final class Cable { int a, b; boolean broken; }
    static final class Port { int net, address = NONE, length; int from, many; int[] holder = new int[4], used = new int[4]; }
    static final class Told { int address, length, next; }
    static final class Rule { int source, length, dest, far, service; boolean passes; }
    static final class Note { int source, dest, service, tick; }
    static final class Learnt { int distance, own, next; }
    static final class Seen { int port, tick; }
    static final class Box {
        int kind, gateway = NONE;
        boolean watches;
        final List<Told> told = new ArrayList<>();
        final List<Rule> rules = new ArrayList<>();
        final List<Note> notes = new ArrayList<>();
        Map<String, Learnt> learnt = new TreeMap<>();
        final Map<Integer, Seen> seen = new HashMap<>();
    }
    static final class Packet { int service, fate = FLYING, where = NONE, source = NONE; }
    static final class Frame implements Cloneable {
        int packet, sender, target, at, tag = NONE, source, dest, passed;
        Frame copy() {
            Frame f = new Frame();
            f.packet = packet; f.sender = sender; f.target = target; f.at = at; f.tag = tag;
            f.source = source; f.dest = dest; f.passed = passed;
            return f;
        }
    }

    final List<Box> boxes = new ArrayList<>();
    final List<Cable> cables = new ArrayList<>();
    final Port[] ports = new Port[40];
    final List<Packet> packets = new ArrayList<>();
    List<Frame> frames = new ArrayList<>();
    int now;

    Model() { for (int i = 0; i < 40; i++) ports[i] = new Port(); }

    static void illegal(boolean bad) { if (bad) throw new IllegalArgumentException(); }
    static void outside(boolean bad) { if (bad) throw new IndexOutOfBoundsException(); }
    static void state(boolean bad) { if (bad) throw new IllegalStateException(); }
    static boolean in(int v, int low, int high) { return v >= low && v <= high; }
    boolean isBox(int b) { return in(b, 0, boxes.size() - 1); }
    boolean isPort(int p) { return p >= 0 && isBox(p / 4) && p % 4 < new int[] {1, 4, 3}[boxes.get(p / 4).kind]; }
    int kind(int box) { return boxes.get(box).kind; }
    int kindAt(int port) { return kind(port / 4); }
    int cableOf(int port) {
        for (int c = 0; c < cables.size(); c++) if (cables.get(c).a == port || cables.get(c).b == port) return c;
        return NONE;
    }
    int end(int cable, int port) { Cable c = cables.get(cable); return c.a == port ? c.b : c.a; }
    static String bits(int address, int length) {
        StringBuilder s = new StringBuilder();
        for (int i = 0; i < length; i++) s.append((address >> (5 - i)) & 1);
        return s.toString();
    }
    static boolean has(int prefix, int length, int address) { return bits(prefix, length).equals(bits(address, length)); }

    int box(int kind) {
        illegal(!in(kind, 0, 2)); state(boxes.size() == 10);
        Box b = new Box(); b.kind = kind; boxes.add(b);
        return boxes.size() - 1;
    }
    int cable(int port, int other) {
        outside(!isPort(port) || !isPort(other)); illegal(port / 4 == other / 4);
        state(cableOf(port) != NONE || cableOf(other) != NONE || cables.size() == 16);
        Cable c = new Cable(); c.a = port; c.b = other; cables.add(c);
        return cables.size() - 1;
    }
    boolean turn(int cable) {
        outside(!in(cable, 0, cables.size() - 1));
        return cables.get(cable).broken = !cables.get(cable).broken;
    }

    boolean bridges(Cable c) { return kindAt(c.a) == BRIDGE && kindAt(c.b) == BRIDGE; }
    /** Number of cables from bridge a to bridge b, by trying all lengths; 99 if they don't hang together. */
    int apart(int a, int b) {
        boolean[] at = new boolean[10];
        at[a] = true;
        for (int n = 0; n < 10; n++) {
            if (at[b]) return n;
            boolean[] more = at.clone();
            for (Cable c : cables) if (bridges(c) && !c.broken) {
                if (at[c.a / 4]) more[c.b / 4] = true;
                if (at[c.b / 4]) more[c.a / 4] = true;
            }
            at = more;
        }
        return 99;
    }
    int rootOf(int bridge) {
        for (int b = 0; b < boxes.size(); b++) if (kind(b) == BRIDGE && apart(bridge, b) < 99) return b;
        throw new IllegalStateException("no root");
    }
    int towards(int bridge) {
        int root = rootOf(bridge), best = NONE, lowest = 99;
        if (root == bridge) return NONE;
        for (int c = 0; c < cables.size(); c++) {
            Cable x = cables.get(c);
            if (x.broken || !bridges(x) || (x.a / 4 != bridge && x.b / 4 != bridge)) continue;
            int other = x.a / 4 == bridge ? x.b / 4 : x.a / 4;
            if (apart(other, root) == apart(bridge, root) - 1 && other < lowest) { lowest = other; best = c; }
        }
        return best;
    }
    final Map<String, Boolean> blockedNow = new HashMap<>();
    boolean blocked(int c) {
        StringBuilder key = new StringBuilder().append(c).append(':').append(boxes.size());
        for (Cable x : cables) key.append(x.broken ? 'b' : 'w').append(x.a).append('-').append(x.b);
        return blockedNow.computeIfAbsent(key.toString(), k -> {
            Cable x = cables.get(c);
            return bridges(x) && !x.broken && towards(x.a / 4) != c && towards(x.b / 4) != c;
        });
    }
    boolean isBlocked(int cable) { outside(!in(cable, 0, cables.size() - 1)); return blocked(cable); }
    boolean open(int cable) { return cable != NONE && !cables.get(cable).broken && !blocked(cable); }

    int net(int port, int net) {
        outside(!isPort(port)); illegal(!in(net, 0, 4) || kindAt(port) != BRIDGE);
        int before = ports[port].net; ports[port].net = net; return before;
    }
    /** The net of a frame that came in, or null if it is lost. */
    Integer inside(int port, int tag) {
        int net = ports[port].net;
        if (net == TRUNK) return tag == NONE ? 0 : tag;
        return tag != NONE && tag != net ? null : Integer.valueOf(net);
    }
    boolean leaves(int port, int net) { return ports[port].net == TRUNK || ports[port].net == net; }
    int tagOut(int port, int net) { return ports[port].net == TRUNK ? net : NONE; }

    void flood(int from, int tag, List<Integer> found) {
        int cable = cableOf(from);
        if (!open(cable)) return;
        int at = end(cable, from);
        if (kindAt(at) != BRIDGE) { if (tag == NONE) found.add(at); return; }
        Integer net = inside(at, tag);
        if (net == null) return;
        for (int p = at / 4 * 4; p < at / 4 * 4 + 4; p++) if (p != at && leaves(p, net)) flood(p, tagOut(p, net), found);
    }
    boolean view(int port, int other) { List<Integer> found = new ArrayList<>(); flood(port, NONE, found); return found.contains(other); }
    boolean sees(int port, int other) {
        outside(!isPort(port) || !isPort(other));
        illegal(kindAt(port) == BRIDGE || kindAt(other) == BRIDGE || port == other);
        return view(port, other);
    }
    int oneAt(int port, int address) {
        List<Integer> found = new ArrayList<>();
        flood(port, NONE, found);
        for (int p = 0; p < 40; p++) if (found.contains(p) && ports[p].address == address) return p;
        return NONE;
    }

    int address(int port, int address, int length) {
        outside(!isPort(port)); illegal(kindAt(port) == BRIDGE || !in(address, 0, 63) || !in(length, 1, 6));
        int before = ports[port].address; ports[port].address = address; ports[port].length = length; return before;
    }
    int gateway(int host, int address) {
        outside(!isBox(host)); illegal(kind(host) != HOST || !in(address, -1, 63));
        int before = boxes.get(host).gateway; boxes.get(host).gateway = address; return before;
    }
    int route(int router, int address, int length, int next) {
        outside(!isBox(router));
        illegal(kind(router) != ROUTER || !in(address, 0, 63) || !in(length, 0, 6) || !in(next, 0, 63));
        state(boxes.get(router).told.size() == 6);
        Told t = new Told(); t.address = address; t.length = length; t.next = next;
        boxes.get(router).told.add(t);
        return boxes.get(router).told.size();
    }
    int rule(int router, int source, int length, int dest, int far, int service, boolean passes) {
        outside(!isBox(router));
        illegal(kind(router) != ROUTER || !in(source, 0, 63) || !in(length, 0, 6) || !in(dest, 0, 63) || !in(far, 0, 6) || !in(service, -1, 3));
        state(boxes.get(router).rules.size() == 8);
        Rule r = new Rule(); r.source = source; r.length = length; r.dest = dest; r.far = far; r.service = service; r.passes = passes;
        boxes.get(router).rules.add(r);
        return boxes.get(router).rules.size();
    }
    boolean watch(int router, boolean does) {
        outside(!isBox(router)); illegal(kind(router) != ROUTER);
        boolean before = boxes.get(router).watches;
        boxes.get(router).watches = does; boxes.get(router).notes.clear();
        return before;
    }
    int pool(int port, int from, int many) {
        outside(!isPort(port)); illegal(kindAt(port) != ROUTER || !in(from, 0, 63) || !in(many, 0, 4) || from + many > 64);
        Port p = ports[port];
        int before = p.many;
        p.from = from; p.many = many;
        for (int i = 0; i < 4; i++) p.holder[i] = NONE;
        return before;
    }

    /** {port, next port}, or {-fate}. */
    int[] hostHop(int host, int dest) {
        Port p = ports[4 * host];
        if (p.address == NONE) return new int[] {-NO_ROUTE};
        int next = has(p.address, p.length, dest) ? dest : boxes.get(host).gateway;
        if (next == NONE) return new int[] {-NO_ROUTE};
        int target = oneAt(4 * host, next);
        return target == NONE ? new int[] {-NO_ONE} : new int[] {4 * host, target};
    }
    int[] routerHop(int router, int dest, List<Map<String, Learnt>> tables) {
        for (int length = 6; length >= 0; length--) {
            for (int p = 4 * router; p < 4 * router + 3; p++)
                if (ports[p].address != NONE && ports[p].length == length && has(ports[p].address, length, dest)) return toOne(p, dest);
            for (Told t : boxes.get(router).told)
                if (t.length == length && has(t.address, length, dest)) {
                    for (int p = 4 * router; p < 4 * router + 3; p++)
                        if (ports[p].address != NONE && has(ports[p].address, ports[p].length, t.next)) return toOne(p, t.next);
                    return new int[] {-NO_ROUTE};
                }
            Learnt l = tables.get(router).get(bits(dest, length));
            if (length > 0 && l != null) return view(4 * router + l.own, l.next) ? new int[] {4 * router + l.own, l.next} : new int[] {-NO_ONE};
        }
        return new int[] {-NO_ROUTE};
    }
    int[] toOne(int port, int address) {
        int target = oneAt(port, address);
        return target == NONE ? new int[] {-NO_ONE} : new int[] {port, target};
    }

    List<Map<String, Learnt>> learnt() {
        List<Map<String, Learnt>> all = new ArrayList<>();
        for (Box b : boxes) all.add(b.learnt);
        return all;
    }
    List<Map<String, Learnt>> learn(List<Map<String, Learnt>> old) {
        List<Map<String, Learnt>> all = new ArrayList<>();
        for (int r = 0; r < boxes.size(); r++) {
            Map<String, Learnt> table = new TreeMap<>();
            all.add(table);
            if (kind(r) != ROUTER) continue;
            for (int own = 0; own < 3; own++) {
                if (ports[4 * r + own].address == NONE) continue;
                for (int q = 0; q < 40; q++) {
                    if (!isPort(q) || kindAt(q) != ROUTER || q / 4 == r || ports[q].address == NONE || !view(4 * r + own, q)) continue;
                    Map<String, Integer> its = new TreeMap<>();
                    for (Map.Entry<String, Learnt> e : old.get(q / 4).entrySet()) its.put(e.getKey(), e.getValue().distance);
                    for (int p = q / 4 * 4; p < q / 4 * 4 + 3; p++) if (ports[p].address != NONE) its.put(bits(ports[p].address, ports[p].length), 0);
                    for (int p = 4 * r; p < 4 * r + 3; p++) if (ports[p].address != NONE) its.remove(bits(ports[p].address, ports[p].length));
                    for (Map.Entry<String, Integer> e : its.entrySet()) {
                        Learnt best = table.get(e.getKey());
                        if (e.getValue() + 1 > 7 || (best != null && best.distance <= e.getValue() + 1)) continue;
                        Learnt l = new Learnt(); l.distance = e.getValue() + 1; l.own = own; l.next = q;
                        table.put(e.getKey(), l);
                    }
                }
            }
        }
        return all;
    }
    static String told(List<Map<String, Learnt>> tables) {
        StringBuilder s = new StringBuilder();
        for (Map<String, Learnt> t : tables) {
            s.append('/');
            for (Map.Entry<String, Learnt> e : t.entrySet())
                s.append(e.getKey()).append('=').append(e.getValue().distance).append(',').append(e.getValue().own).append(',').append(e.getValue().next).append(' ');
        }
        return s.toString();
    }
    List<Map<String, Learnt>> settled() {
        List<Map<String, Learnt>> tables = learnt();
        for (int i = 0; i < 30; i++) {
            List<Map<String, Learnt>> next = learn(tables);
            if (told(next).equals(told(tables))) return next;
            tables = next;
        }
        return tables;
    }

    boolean rulesPass(int router, int source, int dest, int service) {
        for (Rule r : boxes.get(router).rules)
            if (has(r.source, r.length, source) && has(r.dest, r.far, dest) && (r.service == NONE || r.service == service)) return r.passes;
        return true;
    }
    boolean owns(int box, int address) {
        for (int p = 4 * box; p < 4 * box + 4; p++) if (ports[p].address == address) return true;
        return false;
    }

    int send(int host, int dest, int service) {
        outside(!isBox(host)); illegal(kind(host) != HOST || !in(dest, 0, 63) || !in(service, 0, 3)); state(packets.size() == 60);
        Packet packet = new Packet(); packet.service = service; packets.add(packet);
        int number = packets.size() - 1;
        int[] hop = hostHop(host, dest);
        if (hop.length == 1) { fail(number, -hop[0], host, ports[4 * host].address); return number; }
        Frame f = new Frame();
        f.packet = number; f.sender = hop[0]; f.target = hop[1]; f.source = ports[hop[0]].address; f.dest = dest;
        put(f, hop[0], NONE, 0);
        lost();
        return number;
    }
    void fail(int packet, int fate, int box, int source) {
        Packet p = packets.get(packet);
        if (p.fate != FLYING) return;
        p.fate = fate; p.where = box; p.source = source;
    }
    void put(Frame f, int port, int tag, int stillToArrive) {
        int cable = cableOf(port);
        if (!open(cable) || frames.size() + stillToArrive >= 64) return;
        Frame g = f.copy(); g.at = end(cable, port); g.tag = tag;
        frames.add(g);
    }
    void lost() {
        for (int i = 0; i < packets.size(); i++) {
            int number = i;
            if (packets.get(i).fate == FLYING && frames.stream().noneMatch(f -> f.packet == number)) packets.get(i).fate = LOST;
        }
    }
    int tick(int ticks) {
        illegal(!in(ticks, 1, 30));
        for (int i = 0; i < ticks; i++) {
            now++;
            List<Map<String, Learnt>> next = learn(learnt());
            for (int b = 0; b < boxes.size(); b++) boxes.get(b).learnt = next.get(b);
            List<Frame> arriving = frames;
            frames = new ArrayList<>();
            for (int k = 0; k < arriving.size(); k++) {
                Frame f = arriving.get(k);
                if (open(cableOf(f.at))) arrive(f, arriving.size() - k - 1);
            }
            lost();
        }
        return now;
    }
    void arrive(Frame f, int still) {
        int b = f.at / 4;
        if (kind(b) == BRIDGE) { bridge(f, b, still); return; }
        if (f.target != f.at || f.tag != NONE) return;
        if (kind(b) == HOST) { fail(f.packet, ports[f.at].address == f.dest ? DELIVERED : WRONG, b, f.source); return; }
        f.dest = back(b, f.dest);
        int service = packets.get(f.packet).service;
        if (owns(b, f.dest)) { fail(f.packet, DELIVERED, b, f.source); return; }
        if (f.passed == 8) { fail(f.packet, OLD, b, f.source); return; }
        Box box = boxes.get(b);
        boolean passes = rulesPass(b, f.source, f.dest, service);
        if (box.watches) {
            for (Note n : box.notes) if (n.source == f.dest && n.dest == f.source && n.service == service && now - n.tick <= 30) passes = true;
            if (passes) {
                Note n = new Note(); n.source = f.source; n.dest = f.dest; n.service = service; n.tick = now;
                box.notes.add(n);
            }
        }
        if (!passes) { fail(f.packet, FILTERED, b, f.source); return; }
        int[] hop = routerHop(b, f.dest, learnt());
        if (hop.length == 1) { fail(f.packet, -hop[0], b, f.source); return; }
        int source = pooled(ports[hop[0]], f.source);
        if (source == NONE) { fail(f.packet, POOL, b, f.source); return; }
        f.source = source; f.passed++; f.sender = hop[0]; f.target = hop[1];
        put(f, hop[0], NONE, still);
    }
    void bridge(Frame f, int b, int still) {
        Integer net = inside(f.at, f.tag);
        if (net == null) return;
        Seen s = new Seen(); s.port = f.at % 4; s.tick = now;
        boxes.get(b).seen.put(f.sender, s);
        int known = noteAt(b, f.target);
        for (int p = 4 * b; p < 4 * b + 4; p++) {
            if (p == f.at || !leaves(p, net)) continue;
            if (known == NONE || known == p % 4) put(f, p, tagOut(p, net), still);
        }
    }
    int noteAt(int bridge, int port) {
        Seen s = boxes.get(bridge).seen.get(port);
        return s == null || now - s.tick > 20 ? NONE : s.port;
    }
    boolean held(Port p, int i) { return p.holder[i] != NONE && now - p.used[i] <= 30; }
    int back(int router, int dest) {
        for (int q = 4 * router; q < 4 * router + 3; q++) {
            Port p = ports[q];
            if (dest < p.from || dest >= p.from + p.many) continue;
            int i = dest - p.from;
            if (!held(p, i)) return dest;
            p.used[i] = now;
            return p.holder[i];
        }
        return dest;
    }
    int pooled(Port p, int source) {
        if (p.many == 0) return source;
        for (int i = 0; i < p.many; i++) if (held(p, i) && p.holder[i] == source) { p.used[i] = now; return p.from + i; }
        for (int i = 0; i < p.many; i++) if (!held(p, i)) { p.holder[i] = source; p.used[i] = now; return p.from + i; }
        return NONE;
    }

    Packet packet(int n) { outside(!in(n, 0, packets.size() - 1)); return packets.get(n); }
    int fate(int n) { return packet(n).fate; }
    int where(int n) { return packet(n).where; }
    int source(int n) { return packet(n).source; }
    int frames() { return frames.size(); }
    int noted(int bridge, int port) {
        outside(!isBox(bridge) || !isPort(port)); illegal(kind(bridge) != BRIDGE || kindAt(port) == BRIDGE);
        return noteAt(bridge, port);
    }
    int learnt(int router, int address, int length) {
        outside(!isBox(router)); illegal(kind(router) != ROUTER || !in(address, 0, 63) || !in(length, 1, 6));
        for (int p = 4 * router; p < 4 * router + 3; p++)
            if (ports[p].address != NONE && ports[p].length == length && has(ports[p].address, length, address)) return NONE;
        Learnt l = boxes.get(router).learnt.get(bits(address, length));
        return l == null ? NONE : 10000 * l.distance + 100 * l.own + l.next;
    }

    List<Integer> way;
    int prove(int host, int dest, int service, List<Map<String, Learnt>> tables) {
        way = new ArrayList<>();
        int source = ports[4 * host].address, b = host;
        int[] hop = hostHop(host, dest);
        while (true) {
            if (hop.length == 1) return 10 * -hop[0] + b;
            b = hop[1] / 4;
            if (owns(b, dest)) return 10 * DELIVERED + b;
            if (kind(b) == HOST) return 10 * WRONG + b;
            if (way.size() == 8) return 10 * OLD + b;
            if (!rulesPass(b, source, dest, service)) return 10 * FILTERED + b;
            hop = routerHop(b, dest, tables);
            if (hop.length == 1) continue;
            way.add(b);
            if (ports[hop[0]].many > 0) source = ports[hop[0]].from;
        }
    }
    int reach(int host, int to) {
        outside(!isBox(host) || !isBox(to)); illegal(kind(host) != HOST);
        List<Map<String, Learnt>> tables = settled();
        int count = 0;
        for (int d = 0; d < 64; d++) for (int s = 0; s < 4; s++) if (prove(host, d, s, tables) == 10 * DELIVERED + to) count++;
        return count;
    }
    int proved(int host, int dest, int service) {
        outside(!isBox(host)); illegal(kind(host) != HOST || !in(dest, 0, 63) || !in(service, 0, 3));
        return prove(host, dest, service, settled());
    }
    int way(int host, int dest, int service, int place) {
        outside(!isBox(host) || place < 0); illegal(kind(host) != HOST || !in(dest, 0, 63) || !in(service, 0, 3));
        prove(host, dest, service, settled());
        return place < way.size() ? way.get(place) : NONE;
    }
}

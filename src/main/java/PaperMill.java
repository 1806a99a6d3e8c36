import java.util.Arrays;

/** A mill that makes paper by hand; ../shared/DOC.md tells what each call answers. */
public final class PaperMill {
    private static final int NOBODY = -1;
    private static final int OTHER = -2;
    private static final int STATE = -3;
    private static final int BELOW = -4;
    private static final int ROOM = -6;
    private static final int NONE = -9;

    private static final int HOURS_A_DAY = 24;
    private static final int LAST_HOUR = 2400;
    private static final int FORETOLD_HOURS = 240;
    private static final int DAYS = 101;

    private static final int WATER = 0;
    private static final int DRY = 1;
    private static final int FROST = 2;
    private static final int WEATHER_ROWS = 3;
    private static final int UNTOLD = -1;
    /** By row: what it is when no DAY of it is told, and the least and the greatest that can be told. */
    private static final int[] ROW_WHEN_NONE = {20, 4, 0};
    private static final int[] ROW_LEAST = {UNTOLD, UNTOLD, 0};
    private static final int[] ROW_GREATEST = {60, 9, 1};

    private static final int KINDS = 9;
    private static final int GREATEST_RIPE = 20;
    private static final int GREATEST_SPOIL = 40;
    private static final int GREATEST_BEAT = 30;
    private static final int GREATEST_STORE = 20000;
    private static final int HEAPS = 40;
    private static final int GREATEST_HEAP = 400;

    private static final int BEATERS = 4;
    private static final int GREATEST_LOAD = 100;
    private static final int BEATER_WATER = 6;
    private static final int OUNCES_A_POUND = 14;

    private static final int PAIRS = 4;
    private static final int MOULDS = 8;
    private static final int WIRES = 6;
    private static final int PAIR_WIRES = 12;
    private static final int FIRST_WIRE = 50;
    private static final int GREATEST_WIRE = 99;
    private static final int WANDER_SHEETS = 50;
    private static final int GREATEST_WEIGHT = 8;

    private static final int VATS = 3;
    private static final int VAT_WATER = 2;
    private static final int SHEETS_AN_HOUR = 20;
    private static final int POST_SHEETS = 60;
    private static final int MOULD_SHEETS = 30;
    private static final int POSTS = 80;
    /** Sheets of a POST with the same marks: by its two MOULDS, ahead of and behind what wanders. */
    private static final int GROUPS = 4;

    private static final int WET = 0;
    private static final int HANGS = 1;
    private static final int DRIED = 2;
    private static final int SIZED = 3;
    private static final int GREATEST_ROOM = 40;
    private static final int FIRST_ROOM = 10;
    private static final int DRY_ENOUGH = 40;
    private static final int SHEETS_LOST_BY_SIZING = 2;
    private static final int GREATEST_HIDES = 1000;

    private static final int ORDERS = 12;
    private static final int OPEN_AT_MOST = 8;
    private static final int GREATEST_REAMS = 20;
    private static final int GREATEST_PRICE = 999;
    private static final int GREATEST_DUTY = 99;
    private static final int REAM_SHEETS = 480;
    private static final int GREATEST_SHEETS_A_DAY = 9600;
    private static final int BILLION = 1000000000;

    private static final int UNREAD = -1;
    private static final int GREATEST_MARK = 99;
    private static final int FARTHER_THAN_ALL = 1000;

    private final Weather weather;
    private final Rags rags;
    private final Works works;
    /** Where FORETELLING lets HOURS pass: made once, so that no call makes rows. */
    private final Works dream;
    private final Orders orders;
    private final OldSheet oldSheet;
    private final int[] duties;
    private final int[] stock;
    private final int[] refusals;
    private int hidesLeft;
    private int coins;

    public PaperMill() {
        weather = new Weather();
        rags = new Rags();
        works = new Works(weather, rags);
        dream = new Works(weather, rags);
        orders = new Orders();
        oldSheet = new OldSheet(works.posts);
        duties = new int[GREATEST_WEIGHT + 1];
        stock = new int[KINDS * (GREATEST_WEIGHT + 1)];
        refusals = new int[-ROOM + 1];
    }

    public int day(int day, int what, int v) {
        if (!isNumber(day, DAYS)) return refuse(NOBODY);
        if (!isNumber(what, WEATHER_ROWS)) return refuse(OTHER);
        if (v < ROW_LEAST[what]) return refuse(BELOW);
        if (v > ROW_GREATEST[what]) return refuse(ROOM);
        int was = weather.on(day, what);
        weather.tell(day, what, v);
        return was;
    }

    public int dayOf(int day, int what) {
        if (!isNumber(day, DAYS)) return refuse(NOBODY);
        if (!isNumber(what, WEATHER_ROWS)) return refuse(OTHER);
        return weather.on(day, what);
    }

    public int kind(int k, int ripe, int spoil, int beat) {
        if (!isNumber(k, KINDS)) return refuse(NOBODY);
        if (ripe < 0 || spoil < 1 || beat < 1) return refuse(BELOW);
        if (ripe > GREATEST_RIPE || spoil > GREATEST_SPOIL || beat > GREATEST_BEAT) return refuse(ROOM);
        rags.ripe[k] = ripe;
        rags.spoil[k] = spoil;
        rags.beat[k] = beat;
        return 1;
    }

    public int rags(int k, int pounds) {
        if (!isNumber(k, KINDS)) return refuse(NOBODY);
        if (pounds < 1) return refuse(BELOW);
        if (pounds > GREATEST_STORE - rags.store[k]) return refuse(ROOM);
        rags.store[k] += pounds;
        return rags.store[k];
    }

    public int heap(int k, int pounds) {
        if (!isNumber(k, KINDS)) return refuse(NOBODY);
        if (pounds < 1) return refuse(BELOW);
        if (pounds > GREATEST_HEAP || pounds > rags.store[k] || works.heaps.laid == HEAPS) return refuse(ROOM);
        rags.store[k] -= pounds;
        return works.heaps.lay(k, pounds, works.hour);
    }

    public int load(int beater, int heap, int pounds) {
        if (!isNumber(beater, BEATERS) || !isNumber(heap, works.heaps.laid)) return refuse(NOBODY);
        if (!works.beaters.isEmpty(beater) || !works.heaps.isRipe(heap, works.hour)) return refuse(STATE);
        if (pounds < 1) return refuse(BELOW);
        if (pounds > GREATEST_LOAD || pounds > works.heaps.pounds[heap]) return refuse(ROOM);
        int kind = works.heaps.kind[heap];
        works.heaps.pounds[heap] -= pounds;
        works.beaters.take(beater, kind, pounds, rags.beat[kind]);
        return rags.beat[kind];
    }

    public int pair(int weight) {
        if (!isWeight(weight)) return refuse(NOBODY);
        if (works.moulds.pairs == PAIRS) return refuse(ROOM);
        return works.moulds.addPair(weight);
    }

    public int wire(int mould, int wire, int v) {
        if (!isMould(mould) || !isNumber(wire, WIRES)) return refuse(NOBODY);
        if (works.vats.isPairAtPost(mould / 2)) return refuse(STATE);
        if (v < 0) return refuse(BELOW);
        if (v > GREATEST_WIRE) return refuse(ROOM);
        int was = works.moulds.wireOf(mould, wire);
        works.moulds.setWire(mould, wire, v);
        return was;
    }

    public int mouldOf(int mould, int what) {
        if (!isMould(mould)) return refuse(NOBODY);
        if (!isNumber(what, WIRES + 1)) return refuse(OTHER);
        return what == WIRES ? works.moulds.made[mould] : works.moulds.wireOf(mould, what);
    }

    public int vat(int v, int pair) {
        if (!isNumber(v, VATS) || pair != -1 && !isNumber(pair, works.moulds.pairs)) return refuse(NOBODY);
        if (works.vats.begun[v] > 0 || works.vats.isPairElsewhere(v, pair)) return refuse(STATE);
        works.vats.pair[v] = pair == -1 ? NONE : pair;
        return 1;
    }

    public int furnish(int v, int kind) {
        if (!isNumber(v, VATS) || !isNumber(kind, KINDS)) return refuse(NOBODY);
        int was = works.vats.kind[v];
        works.vats.kind[v] = kind;
        return was;
    }

    public int loft(int room) {
        if (room < 0) return refuse(BELOW);
        if (room > GREATEST_ROOM) return refuse(ROOM);
        int was = works.posts.room;
        works.posts.room = room;
        return was;
    }

    public int hides(int n) {
        if (n < 1) return refuse(BELOW);
        if (n > GREATEST_HIDES - hidesLeft) return refuse(ROOM);
        hidesLeft += n;
        return hidesLeft;
    }

    public int size(int post) {
        if (!isNumber(post, works.posts.done)) return refuse(NOBODY);
        if (works.posts.stateOf(post) != DRIED || hidesLeft == 0) return refuse(STATE);
        return sizePost(post);
    }

    public int sizeAll() {
        int sized = 0;
        for (int post = 0; post < works.posts.dried && hidesLeft > 0; post++) {
            if (works.posts.stateOf(post) == DRIED) {
                sizePost(post);
                sized++;
            }
        }
        return sized;
    }

    public int duty(int weight, int v) {
        if (!isWeight(weight)) return refuse(NOBODY);
        if (v < 0) return refuse(BELOW);
        if (v > GREATEST_DUTY) return refuse(ROOM);
        int was = duties[weight];
        duties[weight] = v;
        return was;
    }

    public int order(int kind, int weight, int reams, int due, int price) {
        if (!isNumber(kind, KINDS) || !isWeight(weight)) return refuse(NOBODY);
        if (reams < 1 || due < 0 || price < 0) return refuse(BELOW);
        if (reams > GREATEST_REAMS || due >= DAYS || price > GREATEST_PRICE) return refuse(ROOM);
        if (orders.taken == ORDERS) return refuse(ROOM);
        return orders.take(kind, weight, reams, due, price);
    }

    /** COINS may be below 0, so a refusal is told far above all of them. */
    public int fill(int order) {
        if (!isNumber(order, orders.taken)) return BILLION - refuse(NOBODY);
        int shelf = shelfOf(orders.kind[order], orders.weight[order]);
        int wanted = orders.reams[order] * REAM_SHEETS;
        if (!orders.isOpen(order) || stock[shelf] < wanted) return BILLION - refuse(STATE);
        stock[shelf] -= wanted;
        orders.filledAt[order] = works.hour;
        int came = orders.coinsFor(order, works.today(), duties[orders.weight[order]]);
        coins += came;
        return came;
    }

    public int best(int sheets) {
        int refusal = planRefusal(sheets);
        if (refusal != 0) return refuse(refusal);
        orders.plan(sheets, works.today() + 1);
        return orders.bestSet;
    }

    public int bestWorth(int sheets) {
        int refusal = planRefusal(sheets);
        if (refusal != 0) return refuse(refusal);
        orders.plan(sheets, works.today() + 1);
        return orders.bestSum;
    }

    public int hours(int n) {
        if (n < 1) return refuse(BELOW);
        if (n > LAST_HOUR - works.hour) return refuse(ROOM);
        int before = works.posts.done;
        works.pass(n);
        return works.posts.done - before;
    }

    public int foretell(int n, int what) {
        if (!isNumber(what, 5)) return refuse(OTHER);
        if (n < 1) return refuse(BELOW);
        if (n > FORETOLD_HOURS || n > LAST_HOUR - works.hour) return refuse(ROOM);
        dream.become(works);
        dream.pass(n);
        switch (what) {
            case 0: return dream.posts.done;
            case 1: return dream.posts.dried;
            case 2: return dream.vats.sheetsMade;
            case 3: return dream.heaps.lost;
            default: return dream.pulpOfAll();
        }
    }

    public int when(int posts) {
        if (posts < 0) return refuse(BELOW);
        if (posts > POSTS) return refuse(ROOM);
        dream.become(works);
        int hour = works.hour;
        int last = Math.min(hour + FORETOLD_HOURS, LAST_HOUR);
        for (; hour < last && dream.posts.dried < posts; hour++) dream.pass(1);
        return dream.posts.dried >= posts ? hour : NONE;
    }

    public int mark(int post, int i, int w) {
        if (!isNumber(post, works.posts.done)) return refuse(NOBODY);
        if (!isNumber(i, POST_SHEETS) || !isNumber(w, WIRES)) return refuse(NOBODY);
        return works.posts.marks.markOf(post, i, w);
    }

    public int oldA(int a, int b, int c) {
        return readOld(0, a, b, c);
    }

    public int oldB(int d, int e, int f) {
        return readOld(WIRES / 2, d, e, f);
    }

    public int lies(int t) {
        if (t < 0) return refuse(BELOW);
        if (t > GREATEST_MARK) return refuse(ROOM);
        return oldSheet.countNear(t);
    }

    public int nearest(int what) {
        if (!isNumber(what, 5)) return refuse(OTHER);
        if (works.posts.done == 0) return NONE;
        oldSheet.findNearest();
        int post = oldSheet.nearestPost;
        int sheet = oldSheet.nearestSheet;
        switch (what) {
            case 0: return post;
            case 1: return sheet;
            case 2: return 2 * works.posts.pair[post] + sheet % 2;
            case 3: return oldSheet.nearness;
            default: return works.posts.doneAt[post];
        }
    }

    public int span(int mould, int t, boolean last) {
        if (!isMould(mould)) return refuse(NOBODY);
        if (t < 0) return refuse(BELOW);
        if (t > GREATEST_MARK) return refuse(ROOM);
        return oldSheet.hourOf(mould, t, last);
    }

    public int heapOf(int heap, int what) {
        Heaps heaps = works.heaps;
        if (!isNumber(heap, heaps.laid)) return refuse(NOBODY);
        switch (what) {
            case 0: return heaps.kind[heap];
            case 1: return heaps.pounds[heap];
            case 2: return heaps.ageOf(heap, works.hour);
            case 3: return heaps.isRipe(heap, works.hour) ? 1 : 0;
            case 4: return heaps.spoiled[heap];
            default: return refuse(OTHER);
        }
    }

    public int beaterOf(int beater, int what) {
        if (!isNumber(beater, BEATERS)) return refuse(NOBODY);
        Beaters beaters = works.beaters;
        switch (what) {
            case 0: return beaters.pounds[beater];
            case 1: return beaters.isEmpty(beater) ? NONE : beaters.kind[beater];
            case 2: return beaters.left[beater];
            case 3: return beaters.iron[beater];
            default: return refuse(OTHER);
        }
    }

    public int vatOf(int vat, int what) {
        if (!isNumber(vat, VATS)) return refuse(NOBODY);
        Vats vats = works.vats;
        switch (what) {
            case 0: return vats.pair[vat];
            case 1: return vats.kind[vat];
            case 2: return vats.begun[vat];
            case 3: return vats.idle[vat];
            default: return refuse(OTHER);
        }
    }

    public int postOf(int post, int what) {
        Posts posts = works.posts;
        if (!isNumber(post, posts.done)) return refuse(NOBODY);
        switch (what) {
            case 0: return posts.stateOf(post);
            case 1: return posts.pair[post];
            case 2: return posts.kind[post];
            case 3: return posts.doneAt[post];
            case 4: return posts.hungAt[post];
            case 5: return posts.dryness[post];
            case 6: return posts.driedAt[post];
            case 7: return posts.good[post];
            default: return refuse(OTHER);
        }
    }

    public int orderOf(int order, int what) {
        if (!isNumber(order, orders.taken)) return refuse(NOBODY);
        switch (what) {
            case 0: return orders.kind[order];
            case 1: return orders.weight[order];
            case 2: return orders.reams[order];
            case 3: return orders.due[order];
            case 4: return orders.price[order];
            case 5: return orders.filledAt[order];
            default: return refuse(OTHER);
        }
    }

    public int sheets(int kind, int weight) {
        if (!isNumber(kind, KINDS) || !isWeight(weight)) return refuse(NOBODY);
        return stock[shelfOf(kind, weight)];
    }

    public int count(int what) {
        if (what >= 11 && what <= 16) return refusals[what - 10];
        if (what >= 20 && what < 20 + KINDS) return rags.store[what - 20];
        if (what >= 30 && what < 30 + KINDS) return works.pulp[what - 30];
        switch (what) {
            case 0: return works.hour;
            case 1: return works.heaps.laid;
            case 2: return works.moulds.pairs;
            case 3: return works.posts.done;
            case 4: return orders.taken;
            case 5: return coins + BILLION;
            case 6: return hidesLeft;
            case 7: return works.vats.sheetsMade;
            case 8: return works.heaps.lost;
            case 9: return works.posts.hanging();
            default: return NONE;
        }
    }

    private int refuse(int number) {
        refusals[-number]++;
        return number;
    }

    private int sizePost(int post) {
        hidesLeft--;
        int good = works.posts.finish(post);
        int weight = works.moulds.weight[works.posts.pair[post]];
        stock[shelfOf(works.posts.kind[post], weight)] += good;
        return good;
    }

    private int planRefusal(int sheets) {
        if (orders.open() > OPEN_AT_MOST) return STATE;
        if (sheets < 1) return BELOW;
        return sheets > GREATEST_SHEETS_A_DAY ? ROOM : 0;
    }

    private int readOld(int from, int x, int y, int z) {
        if (x < UNREAD || y < UNREAD || z < UNREAD) return refuse(BELOW);
        if (x > GREATEST_MARK || y > GREATEST_MARK || z > GREATEST_MARK) return refuse(ROOM);
        oldSheet.marks[from] = x;
        oldSheet.marks[from + 1] = y;
        oldSheet.marks[from + 2] = z;
        return 1;
    }

    private boolean isMould(int mould) {
        return isNumber(mould, 2 * works.moulds.pairs);
    }

    private static boolean isNumber(int i, int many) {
        return i >= 0 && i < many;
    }

    private static boolean isWeight(int weight) {
        return weight >= 1 && weight <= GREATEST_WEIGHT;
    }

    private static int shelfOf(int kind, int weight) {
        return kind * (GREATEST_WEIGHT + 1) + weight;
    }

    private static void copyRow(int[] from, int[] to) {
        System.arraycopy(from, 0, to, 0, Math.min(from.length, to.length));
    }

    /** The rows by DAYS. They are reckoned as they are told, since HOURS ask far more often. */
    private static final class Weather {
        private final int[][] told = new int[WEATHER_ROWS][DAYS];
        private final int[][] reckoned = new int[WEATHER_ROWS][DAYS];

        Weather() {
            Arrays.fill(told[WATER], UNTOLD);
            Arrays.fill(told[DRY], UNTOLD);
            Arrays.fill(reckoned[WATER], ROW_WHEN_NONE[WATER]);
            Arrays.fill(reckoned[DRY], ROW_WHEN_NONE[DRY]);
        }

        int on(int day, int what) {
            return reckoned[what][day];
        }

        void tell(int day, int what, int v) {
            told[what][day] = v;
            reckon(told[what], reckoned[what], ROW_WHEN_NONE[what]);
        }

        /** A DAY that is told counts as its own neighbour on both sides, so its mean is itself. */
        private static void reckon(int[] told, int[] reckoned, int whenNone) {
            int ahead = UNTOLD;
            for (int day = 0; day < DAYS; day++) {
                if (told[day] != UNTOLD) ahead = told[day];
                reckoned[day] = ahead;
            }
            int behind = UNTOLD;
            for (int day = DAYS - 1; day >= 0; day--) {
                if (told[day] != UNTOLD) behind = told[day];
                reckoned[day] = between(reckoned[day], behind, whenNone);
            }
        }

        private static int between(int ahead, int behind, int whenNone) {
            if (ahead == UNTOLD) return behind == UNTOLD ? whenNone : behind;
            return behind == UNTOLD ? ahead : (ahead + behind) / 2;
        }
    }

    private static final class Rags {
        final int[] ripe = new int[KINDS];
        final int[] spoil = new int[KINDS];
        final int[] beat = new int[KINDS];
        final int[] store = new int[KINDS];

        Rags() {
            Arrays.fill(ripe, 5);
            Arrays.fill(spoil, 10);
            Arrays.fill(beat, 8);
        }
    }

    private static final class Heaps {
        private final Rags rags;
        final int[] kind = new int[HEAPS];
        final int[] pounds = new int[HEAPS];
        final int[] laidAt = new int[HEAPS];
        final int[] spoiled = new int[HEAPS];
        int laid;
        int lost;

        Heaps(Rags rags) {
            this.rags = rags;
        }

        void copyFrom(Heaps from) {
            copyRow(from.kind, kind);
            copyRow(from.pounds, pounds);
            copyRow(from.laidAt, laidAt);
            copyRow(from.spoiled, spoiled);
            laid = from.laid;
            lost = from.lost;
        }

        int lay(int ofKind, int ofPounds, int hour) {
            kind[laid] = ofKind;
            pounds[laid] = ofPounds;
            laidAt[laid] = hour;
            laid++;
            return laid - 1;
        }

        int ageOf(int heap, int hour) {
            return (hour - laidAt[heap]) / HOURS_A_DAY;
        }

        boolean isRipe(int heap, int hour) {
            return pounds[heap] > 0 && ageOf(heap, hour) >= rags.ripe[kind[heap]];
        }

        void spoilOld(int hour) {
            for (int heap = 0; heap < laid; heap++) {
                int keeps = rags.ripe[kind[heap]] + rags.spoil[kind[heap]];
                if (pounds[heap] > 0 && ageOf(heap, hour) > keeps) {
                    lost += pounds[heap];
                    spoiled[heap] = pounds[heap];
                    pounds[heap] = 0;
                }
            }
        }
    }

    private static final class Beaters {
        final int[] pounds = new int[BEATERS];
        final int[] kind = new int[BEATERS];
        final int[] left = new int[BEATERS];
        final int[] iron = new int[BEATERS];

        void copyFrom(Beaters from) {
            copyRow(from.pounds, pounds);
            copyRow(from.kind, kind);
            copyRow(from.left, left);
            copyRow(from.iron, iron);
        }

        boolean isEmpty(int beater) {
            return pounds[beater] == 0;
        }

        void take(int beater, int ofKind, int ofPounds, int hours) {
            kind[beater] = ofKind;
            pounds[beater] = ofPounds;
            left[beater] = hours;
        }

        /** Answers the WATER that they leave. */
        int work(int water, int[] pulp) {
            int rest = water;
            for (int beater = 0; beater < BEATERS; beater++) {
                if (!isEmpty(beater) && rest >= BEATER_WATER) {
                    rest -= BEATER_WATER;
                    left[beater]--;
                    if (left[beater] == 0) end(beater, pulp);
                }
            }
            return rest;
        }

        private void end(int beater, int[] pulp) {
            pulp[kind[beater]] += OUNCES_A_POUND * pounds[beater];
            pounds[beater] = 0;
            iron[beater]++;
        }
    }

    private static final class Moulds {
        final int[] weight = new int[PAIRS];
        /** The WIRES of MOULD m begin at m times six; so the TWINS of a PAIR stand in one piece. */
        final int[] wires = new int[MOULDS * WIRES];
        final int[] made = new int[MOULDS];
        int pairs;

        void copyFrom(Moulds from) {
            copyRow(from.weight, weight);
            copyRow(from.wires, wires);
            copyRow(from.made, made);
            pairs = from.pairs;
        }

        int addPair(int ofWeight) {
            weight[pairs] = ofWeight;
            for (int wire = 0; wire < PAIR_WIRES; wire++) wires[pairs * PAIR_WIRES + wire] = FIRST_WIRE;
            pairs++;
            return pairs - 1;
        }

        int wireOf(int mould, int wire) {
            return wires[mould * WIRES + wire];
        }

        void setWire(int mould, int wire, int v) {
            wires[mould * WIRES + wire] = v;
        }

        /** Each 50th sheet makes a WIRE wander. */
        void countSheet(int mould) {
            made[mould]++;
            if (made[mould] % WANDER_SHEETS != 0) return;
            int c = made[mould] / WANDER_SHEETS;
            int at = mould * WIRES + (c + mould) % WIRES;
            int wandered = c / WIRES % 2 == 0 ? wires[at] + 1 : wires[at] - 1;
            if (wandered >= 0 && wandered <= GREATEST_WIRE) wires[at] = wandered;
        }
    }

    private static final class Vats {
        private final int[] pulp;
        private final Moulds moulds;
        private final Posts posts;
        final int[] pair = new int[VATS];
        final int[] kind = new int[VATS];
        final int[] begun = new int[VATS];
        final int[] idle = new int[VATS];
        /** The WIRES of both MOULDS as the POST at each VAT was begun. */
        private final int[] firstWires = new int[VATS * PAIR_WIRES];
        int sheetsMade;

        Vats(int[] pulp, Moulds moulds, Posts posts) {
            this.pulp = pulp;
            this.moulds = moulds;
            this.posts = posts;
            Arrays.fill(pair, NONE);
        }

        void copyFrom(Vats from) {
            copyRow(from.pair, pair);
            copyRow(from.kind, kind);
            copyRow(from.begun, begun);
            copyRow(from.idle, idle);
            copyRow(from.firstWires, firstWires);
            sheetsMade = from.sheetsMade;
        }

        boolean isPairElsewhere(int v, int ofPair) {
            for (int other = 0; other < VATS; other++) {
                if (other != v && pair[other] == ofPair) return true;
            }
            return false;
        }

        boolean isPairAtPost(int ofPair) {
            for (int v = 0; v < VATS; v++) {
                if (pair[v] == ofPair && begun[v] > 0) return true;
            }
            return false;
        }

        void work(int water, int hour) {
            int rest = water;
            for (int v = 0; v < VATS; v++) {
                if (pair[v] == NONE) continue;
                if (rest >= VAT_WATER && canMake(v)) {
                    rest -= VAT_WATER;
                    makeSheets(v, hour);
                } else {
                    idle[v]++;
                }
            }
        }

        private boolean canMake(int v) {
            return posts.done < POSTS && pulp[kind[v]] >= moulds.weight[pair[v]];
        }

        private void makeSheets(int v, int hour) {
            for (int sheet = 0; sheet < SHEETS_AN_HOUR && canMake(v); sheet++) {
                makeSheet(v);
                if (begun[v] == POST_SHEETS) endPost(v, hour);
            }
        }

        private void makeSheet(int v) {
            if (begun[v] == 0) {
                System.arraycopy(moulds.wires, pair[v] * PAIR_WIRES, firstWires, v * PAIR_WIRES, PAIR_WIRES);
            }
            pulp[kind[v]] -= moulds.weight[pair[v]];
            moulds.countSheet(2 * pair[v] + begun[v] % 2);
            begun[v]++;
            sheetsMade++;
        }

        private void endPost(int v, int hour) {
            posts.marks.keep(posts.done, firstWires, v * PAIR_WIRES, moulds, pair[v]);
            posts.add(pair[v], kind[v], hour);
            begun[v] = 0;
        }
    }

    /**
     * The marks of all sheets of POSTS. No WIRE is set while a POST is made and 30 sheets of a MOULD
     * meet a multiple of 50 at most once, so each MOULD has two GROUPS of sheets in a POST at most:
     * those ahead of what wandered (0 and 1, by MOULDS) and those behind it (2 and 3). TWINS have made
     * the same COUNT whenever a POST is done, so both wander behind as many sheets of their own.
     */
    private static final class Marks {
        private final int[] wires = new int[POSTS * GROUPS * WIRES];
        /** For each POST: how many sheets of each of its MOULDS are ahead of what wandered. */
        private final int[] early = new int[POSTS];

        void keep(int post, int[] firstWires, int from, Moulds moulds, int pair) {
            int at = post * GROUPS * WIRES;
            System.arraycopy(firstWires, from, wires, at, PAIR_WIRES);
            System.arraycopy(moulds.wires, pair * PAIR_WIRES, wires, at + PAIR_WIRES, PAIR_WIRES);
            int since = moulds.made[2 * pair] % WANDER_SHEETS;
            early[post] = Math.max(0, MOULD_SHEETS - since);
        }

        int markOf(int post, int sheet, int wire) {
            int twin = sheet % 2;
            return groupMark(post, sheet / 2 < early[post] ? twin : twin + 2, wire);
        }

        int groupMark(int post, int group, int wire) {
            return wires[(post * GROUPS + group) * WIRES + wire];
        }

        int groupSheets(int post, int group) {
            return group < 2 ? early[post] : MOULD_SHEETS - early[post];
        }

        /** Rises with the GROUPS that have sheets. */
        int groupFirst(int post, int group) {
            return group < 2 ? group : 2 * early[post] + group - 2;
        }
    }

    /**
     * POSTS come into THE LOFT by numbers, and all that hang there get the same DRY; so they are DRIED
     * by numbers too: those below dried are, those from there to below hung hang, the others are WET.
     */
    private static final class Posts {
        final Marks marks = new Marks();
        final int[] pair = new int[POSTS];
        final int[] kind = new int[POSTS];
        final int[] doneAt = new int[POSTS];
        final int[] hungAt = new int[POSTS];
        final int[] dryness = new int[POSTS];
        final int[] driedAt = new int[POSTS];
        final int[] good = new int[POSTS];
        int done;
        int hung;
        int dried;
        int room = FIRST_ROOM;

        /** Without the marks: FORETELLING never asks for them. */
        void copyFrom(Posts from) {
            copyRow(from.pair, pair);
            copyRow(from.kind, kind);
            copyRow(from.doneAt, doneAt);
            copyRow(from.hungAt, hungAt);
            copyRow(from.dryness, dryness);
            copyRow(from.driedAt, driedAt);
            copyRow(from.good, good);
            done = from.done;
            hung = from.hung;
            dried = from.dried;
            room = from.room;
        }

        void add(int ofPair, int ofKind, int hour) {
            pair[done] = ofPair;
            kind[done] = ofKind;
            doneAt[done] = hour;
            hungAt[done] = NONE;
            dryness[done] = 0;
            driedAt[done] = NONE;
            good[done] = NONE;
            done++;
        }

        int hanging() {
            return hung - dried;
        }

        int stateOf(int post) {
            if (good[post] != NONE) return SIZED;
            if (post < dried) return DRIED;
            return post < hung ? HANGS : WET;
        }

        void hangWet(int hour) {
            while (hung < done && hanging() < room) {
                hungAt[hung] = hour;
                hung++;
            }
        }

        void dryHanging(int dry, int hour) {
            for (int post = dried; post < hung; post++) {
                dryness[post] += dry;
                if (dryness[post] >= DRY_ENOUGH) {
                    driedAt[post] = hour;
                    dried++;
                }
            }
        }

        /** SIZING: answers the GOOD sheets. */
        int finish(int post) {
            int waited = (hungAt[post] - doneAt[post]) / HOURS_A_DAY;
            good[post] = Math.max(0, POST_SHEETS - SHEETS_LOST_BY_SIZING - waited);
            return good[post];
        }
    }

    /** All that changes as HOURS pass. */
    private static final class Works {
        private final Weather weather;
        final int[] pulp = new int[KINDS];
        final Heaps heaps;
        final Beaters beaters = new Beaters();
        final Moulds moulds = new Moulds();
        final Posts posts = new Posts();
        final Vats vats = new Vats(pulp, moulds, posts);
        int hour;

        Works(Weather weather, Rags rags) {
            this.weather = weather;
            heaps = new Heaps(rags);
        }

        void become(Works from) {
            copyRow(from.pulp, pulp);
            heaps.copyFrom(from.heaps);
            beaters.copyFrom(from.beaters);
            moulds.copyFrom(from.moulds);
            posts.copyFrom(from.posts);
            vats.copyFrom(from.vats);
            hour = from.hour;
        }

        int today() {
            return hour / HOURS_A_DAY;
        }

        int pulpOfAll() {
            int sum = 0;
            for (int kind = 0; kind < KINDS; kind++) sum += pulp[kind];
            return sum;
        }

        void pass(int hours) {
            for (int passed = 0; passed < hours && hour < LAST_HOUR; passed++) passOne();
        }

        /** With FROST there is as good as no WATER: neither BEATERS nor VATS work. */
        private void passOne() {
            int day = today();
            boolean frost = weather.on(day, FROST) == 1;
            hour++;
            int rest = beaters.work(frost ? 0 : weather.on(day, WATER), pulp);
            vats.work(rest, hour);
            posts.hangWet(hour);
            posts.dryHanging(frost ? 0 : weather.on(day, DRY), hour);
            heaps.spoilOld(hour);
        }
    }

    private static final class Orders {
        final int[] kind = new int[ORDERS];
        final int[] weight = new int[ORDERS];
        final int[] reams = new int[ORDERS];
        final int[] due = new int[ORDERS];
        final int[] price = new int[ORDERS];
        final int[] filledAt = new int[ORDERS];
        int taken;
        /** The open ones by DUE: whatever can be done in time at all can be done in that order. */
        private final int[] byDue = new int[ORDERS];
        int bestSet;
        int bestSum;

        int take(int ofKind, int ofWeight, int ofReams, int dueDay, int atPrice) {
            kind[taken] = ofKind;
            weight[taken] = ofWeight;
            reams[taken] = ofReams;
            due[taken] = dueDay;
            price[taken] = atPrice;
            filledAt[taken] = NONE;
            taken++;
            return taken - 1;
        }

        boolean isOpen(int order) {
            return filledAt[order] == NONE;
        }

        int open() {
            int open = 0;
            for (int order = 0; order < taken; order++) {
                if (isOpen(order)) open++;
            }
            return open;
        }

        int coinsFor(int order, int today, int duty) {
            int paid = today > due[order] ? price[order] / 2 : price[order];
            return reams[order] * (paid - duty);
        }

        /** BEST, left in bestSet and bestSum. */
        void plan(int sheets, int firstDay) {
            int open = sortByDue();
            bestSet = 0;
            bestSum = 0;
            for (int choice = 1; choice < 1 << open; choice++) weigh(choice, open, sheets, firstDay);
        }

        private int sortByDue() {
            int open = 0;
            for (int order = 0; order < taken; order++) {
                if (!isOpen(order)) continue;
                int at = open;
                while (at > 0 && due[byDue[at - 1]] > due[order]) {
                    byDue[at] = byDue[at - 1];
                    at--;
                }
                byDue[at] = order;
                open++;
            }
            return open;
        }

        /** Bit i of choice is the i-th open one by DUE; the set that is kept has bits by ORDERS. */
        private void weigh(int choice, int open, int sheets, int firstDay) {
            int reamsSoFar = 0;
            int sum = 0;
            int set = 0;
            for (int i = 0; i < open; i++) {
                if ((choice >> i & 1) == 0) continue;
                int order = byDue[i];
                reamsSoFar += reams[order];
                if (reamsSoFar * REAM_SHEETS > (due[order] + 1 - firstDay) * sheets) return;
                sum += price[order] * reams[order];
                set |= 1 << order;
            }
            if (isBetter(sum, set)) {
                bestSum = sum;
                bestSet = set;
            }
        }

        private boolean isBetter(int sum, int set) {
            if (sum != bestSum) return sum > bestSum;
            int fewer = Integer.compare(Integer.bitCount(set), Integer.bitCount(bestSet));
            return fewer != 0 ? fewer < 0 : set < bestSet;
        }
    }

    /** The sheet that is asked for, held against the sheets of POSTS by their GROUPS. */
    private static final class OldSheet {
        private final Posts posts;
        final int[] marks = new int[WIRES];
        int nearestPost;
        int nearestSheet;
        int nearness;

        OldSheet(Posts posts) {
            this.posts = posts;
            Arrays.fill(marks, UNREAD);
        }

        int countNear(int t) {
            int sheets = 0;
            for (int post = 0; post < posts.done; post++) {
                for (int group = 0; group < GROUPS; group++) {
                    if (liesBy(post, group, t)) sheets += posts.marks.groupSheets(post, group);
                }
            }
            return sheets;
        }

        private boolean liesBy(int post, int group, int t) {
            for (int wire = 0; wire < WIRES; wire++) {
                if (differsBy(post, group, wire) > t) return false;
            }
            return true;
        }

        private int differsBy(int post, int group, int wire) {
            if (marks[wire] == UNREAD) return 0;
            return Math.abs(marks[wire] - posts.marks.groupMark(post, group, wire));
        }

        private int nearnessOf(int post, int group) {
            int sum = 0;
            for (int wire = 0; wire < WIRES; wire++) sum += differsBy(post, group, wire);
            return sum;
        }

        /** To be asked only with POSTS; left in nearestPost, nearestSheet and nearness. */
        void findNearest() {
            nearness = FARTHER_THAN_ALL;
            for (int post = 0; post < posts.done; post++) {
                for (int group = 0; group < GROUPS; group++) {
                    if (posts.marks.groupSheets(post, group) > 0) compare(post, group);
                }
            }
        }

        private void compare(int post, int group) {
            int near = nearnessOf(post, group);
            if (near < nearness) {
                nearness = near;
                nearestPost = post;
                nearestSheet = posts.marks.groupFirst(post, group);
            }
        }

        int hourOf(int mould, int t, boolean last) {
            int hour = NONE;
            for (int post = 0; post < posts.done; post++) {
                if (hasNear(post, mould, t)) {
                    hour = posts.doneAt[post];
                    if (!last) return hour;
                }
            }
            return hour;
        }

        private boolean hasNear(int post, int mould, int t) {
            if (posts.pair[post] != mould / 2) return false;
            for (int group = mould % 2; group < GROUPS; group += 2) {
                if (posts.marks.groupSheets(post, group) > 0 && liesBy(post, group, t)) return true;
            }
            return false;
        }
    }
}

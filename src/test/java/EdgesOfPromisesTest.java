/** The boundary cases that promises 1 to 37 name: for each the last that is taken, the first that is refused, and which refusal comes first. */
public final class EdgesOfPromisesTest {
  private static final String PULP = Runs.PULP;
  private static final String VAT = Runs.VAT;
  private static final String SHEETS = Runs.SHEETS;
  /** Three POSTS at HOURS 4, 7 and 10; in the second MOULD 0's WIRE 1 and MOULD 1's WIRE 2 wander. */
  private static final String THREE = VAT + "hours(9)=3 ";
  /** By calls, in the order in which the document tells them. */
  static final String[] REFUSALS = {
    "day -1 -2 -4 -6", "dayOf -1 -2", "kind -1 -4 -6", "rags -1 -4 -6", "heap -1 -4 -6", "load -1 -3 -4 -6", "pair -1 -6",
    "wire -1 -3 -4 -6", "mouldOf -1 -2", "vat -1 -3", "furnish -1", "loft -4 -6", "hides -4 -6", "size -1 -3", "duty -1 -4 -6",
    "order -1 -4 -6", "fill -1 -3", "best -3 -4 -6", "bestWorth -3 -4 -6", "hours -4 -6", "foretell -2 -4 -6", "when -4 -6",
    "mark -1", "oldA -4 -6", "oldB -4 -6", "lies -4 -6", "nearest -2", "span -1 -4 -6", "heapOf -1 -2", "beaterOf -1 -2",
    "vatOf -1 -2", "postOf -1 -2", "orderOf -1 -2", "sheets -1"};
  private static final Edges EDGES = new Edges();

  public static void main(String[] args) {
    rows();
    ragsAndHeaps();
    loads();
    moulds();
    vats();
    loftAndSizing();
    orders();
    best();
    hours();
    foretelling();
    marks();
    oldSheets();
    looks();
    count();
    for (int promise = 1; promise <= 37; promise++) EDGES.mustHave(String.valueOf(promise));
    for (String row : REFUSALS) {
      String[] words = row.split(" ");
      for (int i = 1; i < words.length; i++) EDGES.mustHaveRefused(words[0], Integer.parseInt(words[i]));
    }
    EDGES.end();
  }

  private static void edge(int promise, String sentence, String... calls) {
    EDGES.edge(String.valueOf(promise), sentence, calls);
  }

  private static void rows() {
    edge(1, "Nothing is told.", Runs.times(10, "count(#)=0").replace("count(5)=0", "count(5)=1000000000"), "count(11)=0 count(12)=0 count(13)=0",
        "count(14)=0 count(15)=0 count(16)=0", Runs.times(9, "count(2#)=0 count(3#)=0"), Runs.times(101, "dayOf(#,0)=20 dayOf(#,1)=4 dayOf(#,2)=0"));
    edge(1, "Nothing is told.", Runs.times(4, "beaterOf(#,0)=0 beaterOf(#,1)=-9 beaterOf(#,2)=0 beaterOf(#,3)=0"),
        Runs.times(3, "vatOf(#,0)=-9 vatOf(#,1)=0 vatOf(#,2)=0 vatOf(#,3)=0"), Runs.times(9, "sheets(#,1)=0 sheets(#,8)=0"),
        "heapOf(0,0)=-1 mouldOf(0,0)=-1 postOf(0,0)=-1 orderOf(0,0)=-1 size(0)=-1 sizeAll()=0 fill(0)=1000000001 best(9600)=0 bestWorth(9600)=0",
        "foretell(240,0)=0 foretell(240,4)=0 when(0)=0 when(1)=-9 lies(99)=0 nearest(0)=-9 loft(0)=10 duty(1,1)=0 duty(8,1)=0 furnish(2,8)=0");

    String v = "becomes v; -1: not told: what it was, as reckoned. -1; -2; -4 (below -1; of FROST below 0); -6.";
    edge(2, v, "day(0,0,0)=20 day(0,0,60)=0 day(0,0,-1)=60 day(0,0,60)=20 day(0,0,-2)=-4 day(0,0,61)=-6 day(0,0,least)=-4 day(0,0,most)=-6",
        "dayOf(0,0)=60");
    edge(2, v, "day(100,1,0)=4 day(100,1,9)=0 day(100,1,-1)=9 day(100,1,9)=4 day(100,1,-2)=-4 day(100,1,10)=-6 day(100,1,least)=-4",
        "day(100,1,most)=-6 dayOf(100,1)=9");
    edge(2, v, "day(10,0,40)=20 day(20,0,9)=40 day(15,0,-1)=24 dayOf(15,0)=24 day(15,0,3)=24 dayOf(14,0)=21 dayOf(16,0)=6 day(15,0,-1)=3",
        "dayOf(15,0)=24");
    // What is refused leaves a DAY not told, or told as it was.
    edge(2, v, "day(7,0,61)=-6 dayOf(7,0)=20 day(7,0,-2)=-4 dayOf(7,0)=20 day(7,1,10)=-6 dayOf(7,1)=4 day(7,1,-2)=-4 dayOf(7,1)=4 day(7,2,2)=-6",
        "dayOf(7,2)=0",
        "day(7,2,-1)=-4 dayOf(7,2)=0 day(7,0,5)=20 day(7,0,61)=-6 day(7,0,-2)=-4 dayOf(7,0)=5 day(7,1,5)=4 day(7,1,10)=-6 day(7,1,-2)=-4",
        "dayOf(7,1)=5");
    String frost = "2 FROST (0, 1; it can't be not told)";
    edge(2, frost, "day(5,2,0)=0 day(5,2,1)=0 day(5,2,1)=1 day(5,2,-1)=-4 day(5,2,2)=-6 dayOf(5,2)=1 day(5,2,least)=-4 day(5,2,most)=-6",
        "day(5,2,0)=1 dayOf(5,2)=0");
    edge(2, "A row's DAY: what 0 WATER, 1 DRY", "day(-1,0,1)=-1 day(101,0,1)=-1 day(least,0,1)=-1 day(most,0,1)=-1 day(0,-1,1)=-2 day(0,3,1)=-2",
        "day(0,least,1)=-2 day(0,most,1)=-2 dayOf(0,0)=20 dayOf(100,0)=20 dayOf(0,1)=4 dayOf(0,2)=0");
    edge(2, "-1; -2; -4 (below -1; of FROST below 0); -6.", "day(-1,-1,-2)=-1 day(101,3,61)=-1 day(-1,0,-2)=-1 day(101,0,61)=-1 day(0,-1,-2)=-2",
        "day(100,3,61)=-2",
        "day(0,3,-1)=-2 day(0,-1,10)=-2");

    edge(3, "WATER (0), DRY (1), FROST (2) of a DAY as reckoned. -1; -2.", "dayOf(0,0)=20 dayOf(100,0)=20 dayOf(0,1)=4 dayOf(100,1)=4 dayOf(0,2)=0",
        "dayOf(100,2)=0",
        "dayOf(-1,0)=-1 dayOf(101,0)=-1 dayOf(least,0)=-1 dayOf(most,0)=-1 dayOf(0,-1)=-2 dayOf(0,3)=-2 dayOf(0,least)=-2 dayOf(0,most)=-2",
        "dayOf(101,3)=-1",
        "dayOf(-1,-1)=-1");
    edge(3, "WATER (0), DRY (1), FROST (2) of a DAY as reckoned. -1; -2.", "day(4,1,9)=4 day(4,2,1)=0 dayOf(4,1)=9 dayOf(3,1)=9 dayOf(4,2)=1",
        "dayOf(3,2)=0 dayOf(5,2)=0");
  }

  private static void ragsAndHeaps() {
    String kind = "RIPE, SPOIL, BEAT of a KIND: 1. -1; -4; -6.";
    edge(4, kind, "kind(0,0,1,1)=1 kind(8,20,40,30)=1 kind(-1,0,1,1)=-1 kind(9,0,1,1)=-1 kind(least,0,1,1)=-1 kind(most,0,1,1)=-1");
    edge(4, kind, "kind(2,3,4,5)=1 kind(2,-1,1,1)=-4 kind(2,0,0,1)=-4 kind(2,0,1,0)=-4 kind(2,least,1,1)=-4 kind(2,0,least,1)=-4",
        "kind(2,0,1,least)=-4",
        "kind(2,21,1,1)=-6 kind(2,0,41,1)=-6 kind(2,0,1,31)=-6 kind(2,most,1,1)=-6 kind(2,0,most,1)=-6 kind(2,0,1,most)=-6",
        "rags(2,9)=9 heap(2,9)=0 hours(71)=0 load(0,0,1)=-3 hours(1)=0 load(0,0,1)=5 hours(119)=0 heapOf(0,1)=8 hours(1)=0 heapOf(0,1)=0");
    edge(4, kind, "kind(-1,-1,0,0)=-1 kind(9,21,41,31)=-1 kind(0,-1,41,1)=-4 kind(0,-1,1,31)=-4 kind(0,21,0,1)=-4 kind(0,0,0,31)=-4",
        "kind(0,21,1,0)=-4",
        "kind(0,0,41,0)=-4 kind(0,most,most,least)=-4");
    // RIPE, SPOIL and BEAT of one KIND are none of another's; what a BEATER has begun goes on.
    edge(4, kind, "kind(1,0,1,3)=1 rags(0,9)=9 rags(1,9)=9 rags(2,9)=9 heap(0,9)=0 heap(1,9)=1 heap(2,9)=2 load(0,0,1)=-3 load(0,1,1)=3",
        "load(1,2,1)=-3",
        "kind(1,0,1,1)=1 beaterOf(0,2)=3");

    String rags = "POUNDS come to a STORE: how many there are. -1; -4 below 1; -6.";
    edge(5, rags, "rags(0,1)=1 rags(0,0)=-4 rags(0,-1)=-4 rags(0,least)=-4 count(20)=1 rags(0,20000)=-6 rags(0,19999)=20000 rags(0,1)=-6",
        "rags(0,most)=-6",
        "count(20)=20000 rags(8,20001)=-6 rags(8,20000)=20000 rags(8,1)=-6 count(28)=20000");
    edge(5, rags, "rags(-1,1)=-1 rags(9,1)=-1 rags(least,1)=-1 rags(most,1)=-1 rags(-1,0)=-1 rags(9,20001)=-1");

    String heap = "A HEAP is laid from a STORE: its number. -1; -4 below 1; -6 above 400, more than there are, 40 HEAPS.";
    edge(6, heap, "rags(3,900)=900 heap(3,1)=0 heap(3,400)=1 heap(3,401)=-6 heap(3,0)=-4 heap(3,-1)=-4 heap(3,least)=-4 heap(3,most)=-6",
        "count(23)=499",
        "heap(3,400)=2 heap(3,100)=-6 heap(3,99)=3 heap(3,1)=-6 count(23)=0 count(1)=4 heapOf(0,1)=1 heapOf(1,1)=400 heapOf(3,1)=99");
    edge(6, heap, "rags(3,900)=900 heap(-1,1)=-1 heap(9,1)=-1 heap(least,1)=-1 heap(most,1)=-1 heap(-1,0)=-1 heap(9,401)=-1 heap(2,1)=-6",
        "heap(2,0)=-4");
    edge(6, heap, "rags(3,100)=100", Runs.times(40, "heap(3,1)=#"), "heap(3,1)=-6 heap(3,0)=-4 heap(3,401)=-6 heap(9,1)=-1 count(1)=40 count(23)=60");

    String of = "Of a HEAP: 0 KIND, 1 POUNDS, 2 AGE in DAYS, 3 1 if RIPE (with POUNDS), 4 POUNDS that were SPOILED. -1; -2.";
    edge(31, of, "heapOf(0,0)=-1 rags(8,9)=9 heap(8,9)=0 heapOf(0,0)=8 heapOf(0,1)=9 heapOf(0,2)=0 heapOf(0,3)=0 heapOf(0,4)=0 heapOf(1,0)=-1",
        "heapOf(-1,0)=-1 heapOf(least,0)=-1 heapOf(most,0)=-1 heapOf(0,-1)=-2 heapOf(0,5)=-2 heapOf(0,least)=-2 heapOf(0,most)=-2 heapOf(1,5)=-1",
        "heapOf(-1,-1)=-1");
    edge(31, of, "kind(0,0,1,1)=1 rags(0,9)=9 heap(0,1)=0 heap(0,2)=1 heapOf(0,3)=1 load(0,0,1)=1 heapOf(0,1)=0 heapOf(0,3)=0 heapOf(0,4)=0",
        "load(1,0,1)=-3",
        "heapOf(1,3)=1 hours(48)=0 heapOf(0,4)=0 heapOf(0,2)=2 heapOf(1,3)=0 heapOf(1,4)=2 heapOf(1,0)=0");
  }

  private static void loads() {
    String load = "POUNDS (100 at most) of a RIPE HEAP come into an empty BEATER: the HOURS that it takes (BEAT of the KIND). -1; -3; -4 below 1; -6.";
    String heap = "kind(0,1,9,3)=1 rags(0,500)=500 heap(0,250)=0 ";
    edge(7, load, heap, "hours(24)=0 load(0,0,0)=-4 load(0,0,-1)=-4 load(0,0,least)=-4 load(0,0,1)=3 load(1,0,101)=-6 load(1,0,most)=-6",
        "load(1,0,100)=3",
        "load(2,0,100)=3 heapOf(0,1)=49 load(3,0,50)=-6 load(3,0,49)=3 heapOf(0,1)=0 beaterOf(0,0)=1 beaterOf(1,0)=100 beaterOf(3,0)=49",
        "beaterOf(3,2)=3");
    edge(7, load, heap, "hours(24)=0 load(-1,0,1)=-1 load(4,0,1)=-1 load(least,0,1)=-1 load(most,0,1)=-1 load(0,-1,1)=-1 load(0,1,1)=-1",
        "load(0,least,1)=-1",
        "load(0,most,1)=-1 heapOf(0,1)=250 beaterOf(0,0)=0");
    edge(7, load, heap, "hours(23)=0 load(0,0,1)=-3 load(0,0,0)=-3 load(0,0,101)=-3 load(4,0,1)=-1 load(0,1,1)=-1 hours(1)=0 load(0,0,1)=3",
        "load(0,0,1)=-3",
        "load(0,0,0)=-3 load(0,0,101)=-3 load(0,1,0)=-1 load(0,1,101)=-1 load(-1,0,0)=-1 heapOf(0,1)=249 hours(2)=0 load(0,0,1)=-3 hours(1)=0",
        "load(0,0,1)=3");
    // A HEAP with no POUNDS left, and one that is SPOILED.
    edge(7, load, heap, "heap(0,1)=1 hours(24)=0 load(0,1,1)=3 load(1,1,1)=-3 hours(240)=0 heapOf(0,4)=250 load(0,0,1)=-3");

    String of = "Of a BEATER: 0 POUNDS (0: empty), 1 KIND (-9), 2 HOURS left, 3 IRON. -1; -2.";
    edge(32, of, "beaterOf(0,0)=0 beaterOf(0,1)=-9 beaterOf(0,2)=0 beaterOf(0,3)=0 beaterOf(3,0)=0 beaterOf(3,1)=-9 beaterOf(-1,0)=-1",
        "beaterOf(4,0)=-1",
        "beaterOf(least,0)=-1 beaterOf(most,0)=-1 beaterOf(0,-1)=-2 beaterOf(0,4)=-2 beaterOf(0,least)=-2 beaterOf(0,most)=-2 beaterOf(4,4)=-1",
        "beaterOf(-1,-1)=-1");
    edge(32, of, "kind(0,0,9,1)=1 kind(8,0,9,1)=1 rags(0,9)=9 rags(8,9)=9 heap(0,9)=0 heap(8,9)=1 load(0,0,1)=1 load(3,1,1)=1 beaterOf(0,1)=0",
        "beaterOf(3,1)=8",
        "hours(1)=0 beaterOf(0,0)=0 beaterOf(0,1)=-9 beaterOf(3,1)=-9 beaterOf(3,2)=0 beaterOf(3,3)=1");
  }

  private static void moulds() {
    String pair = "A PAIR of MOULDS with a WEIGHT, all WIRES 50: its number. -1 WEIGHT; -6 there are 4.";
    edge(8, pair, "pair(0)=-1 pair(9)=-1 pair(least)=-1 pair(most)=-1 count(2)=0 pair(1)=0 pair(8)=1 pair(1)=2 count(2)=3 pair(8)=3 pair(1)=-6",
        "pair(8)=-6",
        "pair(0)=-1 pair(9)=-1 count(2)=4");
    edge(8, pair, "pair(1)=0", Runs.times(6, "mouldOf(0,#)=50 mouldOf(1,#)=50"), "pair(2)=1 pair(2)=2 pair(2)=3",
        Runs.times(6, "mouldOf(2,#)=50 mouldOf(6,#)=50 mouldOf(7,#)=50"));

    String wire = "A WIRE of a MOULD is set: what it was. -1; -3 a sheet of a POST that is not done was made by its PAIR; -4; -6.";
    edge(9, wire, "wire(0,0,1)=-1 pair(1)=0 wire(0,0,0)=50 wire(0,0,99)=0 wire(0,0,-1)=-4 wire(0,0,100)=-6 wire(0,0,least)=-4 wire(0,0,most)=-6",
        "mouldOf(0,0)=99",
        "wire(1,5,7)=50 wire(1,5,8)=7 wire(2,0,1)=-1 wire(-1,0,1)=-1 wire(least,0,1)=-1 wire(most,0,1)=-1 wire(0,-1,1)=-1 wire(0,6,1)=-1",
        "wire(0,least,1)=-1",
        "wire(0,most,1)=-1 wire(2,0,-1)=-1 wire(0,6,100)=-1 mouldOf(1,5)=8 mouldOf(1,0)=50 mouldOf(0,5)=50");
    edge(9, wire, VAT, "pair(1)=1 wire(0,0,1)=50 hours(1)=0 wire(0,0,2)=-3 wire(1,0,2)=-3 wire(0,0,-1)=-3 wire(0,0,100)=-3 wire(0,6,2)=-1",
        "wire(4,0,2)=-1",
        "wire(2,0,2)=50 wire(3,5,2)=50 hours(1)=0 wire(1,5,2)=-3 hours(1)=1 vatOf(0,2)=0 wire(0,0,2)=1 wire(1,0,2)=50 hours(1)=0 wire(0,0,3)=-3");
    edge(9, wire, "pair(1)=0 wire(1,4,100)=-6 mouldOf(1,4)=50 wire(1,4,-1)=-4 mouldOf(1,4)=50 wire(1,4,99)=50 wire(1,4,-1)=-4 mouldOf(1,4)=99",
        "wire(1,4,0)=99 wire(1,4,100)=-6",
        "mouldOf(1,4)=0");
    // One sheet, made by the first MOULD: the second is of its PAIR.
    edge(9, wire, "kind(0,0,9,1)=1 rags(0,9)=9 heap(0,9)=0 pair(8)=0 load(0,0,1)=1 vat(2,0)=1 hours(1)=0 vatOf(2,2)=1 mouldOf(1,6)=0 wire(1,0,5)=-3",
        "wire(0,0,5)=-3",
        "hours(99)=0 wire(1,0,5)=-3");

    edge(10, "WIRE of a MOULD (what 0 .. 5), its COUNT (6). -1; -2.", "mouldOf(0,0)=-1 pair(1)=0 wire(0,0,1)=50 wire(0,5,2)=50 mouldOf(0,0)=1",
        "mouldOf(0,5)=2 mouldOf(0,6)=0",
        "mouldOf(0,7)=-2 mouldOf(0,-1)=-2 mouldOf(0,least)=-2 mouldOf(0,most)=-2 mouldOf(1,0)=50 mouldOf(2,0)=-1 mouldOf(-1,0)=-1",
        "mouldOf(least,0)=-1 mouldOf(most,0)=-1",
        "mouldOf(2,7)=-1 mouldOf(-1,-1)=-1");
  }

  private static void vats() {
    String vat = "A VAT gets a PAIR (-1: none): 1. -1; -3 a POST is begun at it, or another VAT has that PAIR.";
    edge(11, vat, "vat(0,0)=-1 vat(0,-1)=1 pair(2)=0 vat(0,1)=-1 vat(0,-2)=-1 vat(0,least)=-1 vat(0,most)=-1 vat(-1,0)=-1 vat(3,0)=-1",
        "vat(least,0)=-1 vat(most,0)=-1",
        "vat(3,-1)=-1 vatOf(0,0)=-9 vat(0,0)=1 vat(2,0)=-3 vat(1,0)=-3 vat(0,0)=1 vat(0,-1)=1 vat(2,0)=1 vat(0,0)=-3 vat(0,-1)=1 vat(3,0)=-1",
        "vatOf(2,0)=0");
    edge(11, vat, VAT, "pair(1)=1 vat(1,1)=1 vat(1,-1)=1 hours(1)=0 vat(0,1)=-3 vat(0,0)=-3 vat(0,-1)=-3 vat(1,0)=-3 vat(0,2)=-1 vat(0,-2)=-1",
        "vatOf(0,0)=0 hours(1)=0",
        "vat(0,-1)=-3 hours(1)=1 vat(0,1)=1 vatOf(0,0)=1 vat(1,0)=1 hours(1)=0 vat(0,-1)=-3 vat(1,-1)=-3 vat(2,-1)=1");

    edge(11, vat, "pair(1)=0 pair(1)=1 vat(0,0)=1 vat(2,1)=1 vat(2,0)=-3 vatOf(2,0)=1 vat(0,1)=-3 vatOf(0,0)=0 vat(1,1)=-3 vatOf(1,0)=-9",
        "vat(2,-1)=1 vat(0,1)=1 vat(2,0)=1");
    // A POST is begun with its first sheet, and till its last one.
    edge(11, vat, "kind(0,0,9,1)=1 rags(0,99)=99 heap(0,99)=0 pair(8)=0 load(0,0,1)=1 vat(2,0)=1 vat(2,-1)=1 vat(2,0)=1 hours(1)=0 vatOf(2,2)=1",
        "vat(2,-1)=-3 vat(2,0)=-3");
    edge(11, vat, "kind(0,0,9,1)=1 rags(0,99)=99 heap(0,99)=0 pair(4)=0 load(0,0,17)=1 vat(2,0)=1 hours(3)=0 vatOf(2,2)=59 vat(2,-1)=-3 vat(2,0)=-3");

    edge(12, "KIND of a VAT (0 at first): what it was. -1.", "furnish(0,8)=0 furnish(1,0)=0 furnish(2,1)=0 furnish(0,0)=8 furnish(-1,0)=-1",
        "furnish(3,0)=-1 furnish(least,0)=-1",
        "furnish(most,0)=-1 furnish(0,-1)=-1 furnish(0,9)=-1 furnish(0,least)=-1 furnish(0,most)=-1 vatOf(0,1)=0 vatOf(1,1)=0 vatOf(2,1)=1");

    String of = "Of a VAT: 0 PAIR (-9), 1 KIND, 2 sheets of the POST that is begun, 3 HOURS in which it had a PAIR but made none. -1; -2.";
    edge(33, of, "vatOf(0,0)=-9 vatOf(2,1)=0 vatOf(0,2)=0 vatOf(0,3)=0 vatOf(-1,0)=-1 vatOf(3,0)=-1 vatOf(least,0)=-1 vatOf(most,0)=-1",
        "vatOf(0,-1)=-2 vatOf(0,4)=-2",
        "vatOf(0,least)=-2 vatOf(0,most)=-2 vatOf(3,4)=-1 vatOf(-1,-1)=-1");
    edge(33, of, VAT, "hours(2)=0 vatOf(0,2)=40 hours(1)=1 vatOf(0,2)=0 vatOf(0,3)=0 vat(0,-1)=1 hours(5)=0 vatOf(0,0)=-9 vatOf(0,3)=0 vat(0,0)=1",
        "furnish(0,1)=0",
        "hours(2)=0 vatOf(0,3)=2 furnish(0,0)=1 hours(1)=0 vatOf(0,3)=2 day(0,0,1)=60 hours(1)=0 vatOf(0,3)=3 vatOf(1,3)=0");
  }

  private static void loftAndSizing() {
    edge(13, "ROOM of THE LOFT: what it was. -4; -6.", "loft(0)=10 loft(40)=0 loft(-1)=-4 loft(41)=-6 loft(least)=-4 loft(most)=-6 loft(1)=40",
        "loft(10)=1");
    edge(14, "HIDES come: how many there are. -4 below 1; -6 above 1000.", "hides(0)=-4 hides(-1)=-4 hides(least)=-4 hides(1001)=-6 hides(most)=-6",
        "hides(1)=1",
        "hides(1000)=-6 hides(999)=1000 hides(1)=-6 hides(most)=-6 count(6)=1000");
    edge(14, "HIDES come: how many there are. -4 below 1; -6 above 1000.", "hides(1000)=1000 hides(0)=-4 hides(1)=-6 count(6)=1000");

    String size = "SIZING: GOOD sheets. -1; -3 not DRIED, or no HIDE.";
    edge(15, size, VAT, "size(0)=-1 hours(2)=0 size(0)=-1 loft(0)=10 hours(1)=1 size(1)=-1 size(-1)=-1 size(least)=-1 size(most)=-1 size(0)=-3",
        "hides(2)=2 size(0)=-3 loft(1)=0",
        "hours(1)=0 postOf(0,0)=1 size(0)=-3 hours(8)=3 postOf(0,5)=36 size(0)=-3 hours(1)=0 postOf(0,0)=2 size(0)=58 size(0)=-3 count(6)=1",
        "sheets(0,1)=58 size(1)=-3");
    edge(15, size, VAT, "hours(12)=4 postOf(0,0)=2 size(0)=-3 hides(1)=1 size(0)=58 count(6)=0 hours(3)=1 postOf(1,0)=2 size(1)=-3 postOf(1,0)=2",
        "postOf(1,7)=-9");

    String all = "All POSTS that are DRIED are SIZED, by numbers, as long as there are HIDES: how many.";
    edge(16, all, "sizeAll()=0 hides(1)=1 sizeAll()=0 count(6)=1");
    edge(16, all, VAT, "hours(18)=6 postOf(2,0)=2 postOf(3,0)=1 sizeAll()=0 postOf(0,0)=2 hides(2)=2 sizeAll()=2 postOf(0,0)=3 postOf(1,0)=3",
        "postOf(2,0)=2 count(6)=0",
        "sizeAll()=0 hides(3)=3 sizeAll()=1 postOf(2,0)=3 postOf(3,0)=1 count(6)=2 sizeAll()=0 count(6)=2 sheets(0,1)=174");
    edge(16, all, VAT, "hours(18)=6 hides(9)=9 size(1)=58 sizeAll()=2 count(6)=6 sheets(0,1)=174");

    String of = "Of a POST: 0 0 WET, 1 in THE LOFT, 2 DRIED, 3 SIZED, 1 PAIR, 2 KIND, 3 the HOUR at which it was done, 4 at which it came into THE LOFT (-9), 5 DRYNESS,"
        + " 6 at which it was DRIED (-9), 7 GOOD (SIZED; -9). -1; -2.";
    edge(34, of, VAT, "postOf(0,0)=-1 loft(0)=10 hours(3)=1 postOf(0,0)=0 postOf(0,1)=0 postOf(0,2)=0 postOf(0,3)=4 postOf(0,4)=-9 postOf(0,5)=0",
        "postOf(0,6)=-9 postOf(0,7)=-9",
        "loft(1)=0 hours(1)=0 postOf(0,0)=1 postOf(0,4)=5 postOf(0,5)=4 postOf(0,6)=-9 hours(9)=3 postOf(0,0)=2 postOf(0,5)=40 postOf(0,6)=14",
        "postOf(0,7)=-9 hides(1)=1",
        "size(0)=58 postOf(0,0)=3 postOf(0,4)=5 postOf(0,6)=14 postOf(0,7)=58 postOf(0,8)=-2 postOf(0,-1)=-2 postOf(0,least)=-2 postOf(0,most)=-2",
        "postOf(4,0)=-1 postOf(-1,0)=-1",
        "postOf(least,0)=-1 postOf(most,0)=-1 postOf(4,8)=-1 postOf(-1,-1)=-1");
    edge(34, of, VAT, "hours(240)=80 postOf(79,0)=1 postOf(79,3)=241 postOf(80,0)=-1");
  }

  private static void orders() {
    edge(17, "DUTY for a WEIGHT: what it was. -1; -4; -6.", "duty(1,99)=0 duty(1,0)=99 duty(8,1)=0 duty(8,2)=1 duty(0,1)=-1 duty(9,1)=-1",
        "duty(least,1)=-1 duty(most,1)=-1",
        "duty(1,-1)=-4 duty(1,100)=-6 duty(1,least)=-4 duty(1,most)=-6 duty(0,-1)=-1 duty(9,100)=-1 duty(1,5)=0 duty(2,5)=0 duty(7,5)=0 duty(8,5)=2");

    String order = "An ORDER: its number. -1 KIND, WEIGHT; -4; -6 (12, too; DUE 0 .. 100).";
    edge(18, order, "order(0,1,1,0,0)=0 order(8,8,20,100,999)=1 order(-1,1,1,0,0)=-1 order(9,1,1,0,0)=-1 order(0,0,1,0,0)=-1 order(0,9,1,0,0)=-1",
        "order(least,1,1,0,0)=-1",
        "order(most,1,1,0,0)=-1 order(0,least,1,0,0)=-1 order(0,most,1,0,0)=-1 count(4)=2 orderOf(1,0)=8 orderOf(1,1)=8");
    edge(18, order, "order(0,1,0,0,0)=-4 order(0,1,1,-1,0)=-4 order(0,1,1,0,-1)=-4 order(0,1,least,0,0)=-4 order(0,1,1,least,0)=-4",
        "order(0,1,1,0,least)=-4",
        "order(0,1,21,0,0)=-6 order(0,1,1,101,0)=-6 order(0,1,1,0,1000)=-6 order(0,1,most,0,0)=-6 order(0,1,1,most,0)=-6 order(0,1,1,0,most)=-6",
        "count(4)=0");
    edge(18, order, "order(9,1,0,0,0)=-1 order(0,9,21,101,1000)=-1 order(9,9,-1,-1,-1)=-1 order(0,1,0,101,0)=-4 order(0,1,0,0,1000)=-4",
        "order(0,1,21,-1,0)=-4 order(0,1,1,-1,1000)=-4",
        "order(0,1,21,0,-1)=-4 order(0,1,1,101,-1)=-4 count(4)=0");
    edge(18, order, Runs.times(12, "order(0,1,1,5,9)=#"), "order(0,1,1,5,9)=-6 order(0,1,0,5,9)=-4 order(9,1,1,5,9)=-1 order(0,1,21,5,9)=-6",
        "count(4)=12");

    String fill = "An ORDER is filled: COINS that came (may be below 0). -1; -3 it is, or too few SHEETS: here told as 1000000000 less the number.";
    edge(19, fill, "fill(0)=1000000001 fill(-1)=1000000001 fill(least)=1000000001 fill(most)=1000000001 order(0,1,1,5,9)=0 fill(0)=1000000003",
        "fill(1)=1000000001");
    edge(19, fill, SHEETS, "order(0,1,1,5,9)=0 order(0,1,1,5,9)=1 order(0,1,1,5,9)=2 order(0,2,1,5,9)=3 order(1,1,1,5,9)=4 fill(0)=9",
        "fill(0)=1000000003 sheets(0,1)=506",
        "fill(3)=1000000003 fill(4)=1000000003 fill(1)=9 sheets(0,1)=26 fill(2)=1000000003 fill(5)=1000000001 sheets(0,1)=26 count(5)=1000000018",
        "orderOf(2,5)=-9");
    edge(19, fill, SHEETS, "duty(1,99)=0 order(0,1,2,5,0)=0 fill(0)=-198 count(5)=999999802 fill(0)=1000000003");
    edge(19, fill, VAT, "loft(40)=10 hours(250)=80 hides(80)=80 sizeAll()=80 sheets(0,1)=4640 order(0,1,10,100,999)=0 order(0,1,9,100,999)=1",
        "fill(0)=1000000003 fill(1)=8991",
        "sheets(0,1)=320");

    String of = "Of an ORDER: 0 KIND, 1 WEIGHT, 2 REAMS, 3 DUE, 4 PRICE, 5 the HOUR at which it was filled (-9). -1; -2.";
    edge(35, of, SHEETS, "orderOf(0,0)=-1 order(0,1,2,50,60)=0 orderOf(0,0)=0 orderOf(0,1)=1 orderOf(0,2)=2 orderOf(0,3)=50 orderOf(0,4)=60",
        "orderOf(0,5)=-9 fill(0)=120",
        "orderOf(0,5)=72 orderOf(0,6)=-2 orderOf(0,-1)=-2 orderOf(0,least)=-2 orderOf(0,most)=-2 orderOf(1,0)=-1 orderOf(-1,0)=-1",
        "orderOf(least,0)=-1 orderOf(most,0)=-1",
        "orderOf(1,6)=-1 orderOf(-1,-1)=-1 hours(9)=0 orderOf(0,5)=72");

    edge(36, "SHEETS of a KIND and WEIGHT. -1.", SHEETS, "sheets(0,1)=986 sheets(0,8)=0 sheets(8,1)=0 sheets(8,8)=0 sheets(-1,1)=-1 sheets(9,1)=-1",
        "sheets(0,0)=-1 sheets(0,9)=-1",
        "sheets(least,1)=-1 sheets(most,1)=-1 sheets(0,least)=-1 sheets(0,most)=-1");
  }

  private static void best() {
    String best = "BEST: the set. -3 more than 8 are open; -4; -6.";
    String nine = Runs.times(9, "order(0,1,1,100,1)=#");
    edge(20, best, "best(0)=-4 best(-1)=-4 best(least)=-4 best(1)=0 best(9600)=0 best(9601)=-6 best(most)=-6");
    edge(20, best, Runs.times(8, "order(0,1,1,100,1)=#"), "best(9600)=255 best(0)=-4 best(9601)=-6 order(0,1,1,100,1)=8 best(9600)=-3 best(0)=-3",
        "best(9601)=-3 best(least)=-3");
    edge(20, best, SHEETS, nine, "best(0)=-3 fill(8)=1 best(0)=-4 best(9601)=-6 best(9600)=255 fill(0)=1 best(9600)=254");

    String worth = "What that comes to: the sum of PRICES times REAMS. Refused as best().";
    edge(21, worth, "bestWorth(0)=-4 bestWorth(-1)=-4 bestWorth(least)=-4 bestWorth(1)=0 bestWorth(9600)=0 bestWorth(9601)=-6 bestWorth(most)=-6");
    edge(21, worth, Runs.times(8, "order(0,1,1,100,1)=#"), "bestWorth(9600)=8 bestWorth(0)=-4 bestWorth(9601)=-6 order(0,1,1,100,1)=8",
        "bestWorth(9600)=-3 bestWorth(0)=-3",
        "bestWorth(9601)=-3");
    edge(21, worth, "order(0,1,1,0,999)=0 bestWorth(9600)=0 order(0,1,20,1,999)=1 bestWorth(9599)=0 bestWorth(9600)=19980");
  }

  private static void hours() {
    String hours = "n HOURS pass: how many POSTS were done. -4 below 1; -6 above 2400 in all.";
    edge(22, hours, "hours(0)=-4 hours(-1)=-4 hours(least)=-4 hours(2401)=-6 hours(most)=-6 count(0)=0 hours(1)=0 hours(2400)=-6 hours(2399)=0",
        "hours(1)=-6 hours(most)=-6 hours(0)=-4",
        "count(0)=2400");
    edge(22, hours, "hours(2400)=0 count(0)=2400 hours(1)=-6");
    edge(22, hours, VAT, "hours(2)=0 hours(1)=1 hours(2)=0 hours(4)=2 hours(2390)=77 count(3)=80 hours(1)=-6 hours(0)=-4");
  }

  private static void foretelling() {
    String foretell = "FORETELLING n HOURS (1 .. 240): what 0 POSTS that are done then, 1 that are DRIED or SIZED, 2 sheets made, 3 pounds SPOILED, 4 PULP of all."
        + " -2; -4; -6 (also above 2400 in all).";
    edge(23, foretell, "foretell(0,0)=-4 foretell(-1,0)=-4 foretell(least,0)=-4 foretell(1,0)=0 foretell(240,0)=0 foretell(241,0)=-6",
        "foretell(most,0)=-6 foretell(1,-1)=-2",
        "foretell(1,5)=-2 foretell(1,least)=-2 foretell(1,most)=-2 foretell(0,5)=-2 foretell(0,-1)=-2 foretell(241,5)=-2 foretell(241,-1)=-2",
        "count(0)=0");
    edge(23, foretell, "hours(2160)=0 foretell(240,4)=0 hours(1)=0 foretell(240,4)=-6 foretell(239,4)=0 hours(238)=0 foretell(1,0)=0",
        "foretell(2,0)=-6 hours(1)=0",
        "foretell(1,0)=-6 foretell(0,0)=-4 foretell(1,5)=-2 count(0)=2400");
    edge(23, foretell, VAT, "foretell(2,0)=0 foretell(3,0)=1 foretell(11,1)=0 foretell(12,1)=1 foretell(1,2)=20 foretell(239,0)=79",
        "foretell(240,0)=80 foretell(240,2)=4800",
        "foretell(240,4)=800 hours(12)=4 foretell(1,2)=260 foretell(240,2)=4800 hides(1)=1 size(0)=58 foretell(1,1)=1 foretell(2,1)=1",
        "foretell(3,1)=2 foretell(1,0)=4 foretell(3,0)=5");
    edge(23, foretell, "kind(0,0,1,9)=1 kind(8,0,9,1)=1 rags(0,9)=9 rags(8,9)=9 heap(0,9)=0 heap(8,9)=1 load(0,0,2)=9 load(1,1,9)=1",
        "foretell(47,3)=0 foretell(48,3)=7",
        "foretell(1,4)=126 foretell(8,4)=126 foretell(9,4)=154 hours(48)=0 foretell(1,3)=7 foretell(1,4)=154");

    String when = "The first HOUR, from now on, 240 at most, in which so many POSTS would be DRIED or SIZED in all; -9 there is none. -4 below 0; -6 above 80.";
    edge(24, when, "when(0)=0 when(1)=-9 when(80)=-9 when(-1)=-4 when(81)=-6 when(least)=-4 when(most)=-6 hours(7)=0 when(0)=7 hours(2393)=0",
        "when(0)=2400 when(1)=-9");
    edge(24, when, VAT, "loft(40)=10 when(0)=1 when(1)=13 when(2)=16 when(77)=241 when(78)=-9 hours(8)=2 when(79)=247 when(80)=-9 hours(1)=1",
        "when(80)=250 hours(2)=0",
        "when(1)=13 hours(1)=1 postOf(0,0)=2 when(1)=13 hides(1)=1 size(0)=58 when(1)=13 when(2)=16 hours(1)=0 when(1)=14 hours(236)=76",
        "count(0)=250 when(80)=250 when(79)=250");
    // A POST that would be DRIED at HOUR 250 is seen from HOUR 10 on, and one at HOUR 2400 is seen.
    edge(24, when, VAT, "day(0,1,0)=4 day(9,1,0)=0 day(10,1,4)=0 hours(3)=1 furnish(0,1)=0 hours(5)=0 when(1)=-9 hours(1)=0 count(0)=10 when(1)=250",
        "when(2)=-9");
    edge(24, when, VAT, "day(0,1,0)=4 day(98,1,0)=0 day(99,1,1)=0 hours(3)=1 furnish(0,1)=0 hours(2380)=0 when(1)=-9 day(99,1,2)=1 when(1)=2400",
        "day(98,1,3)=0 day(99,1,0)=2 when(1)=-9",
        "count(0)=2384");
    edge(24, when, VAT, "day(0,1,0)=4 day(98,1,1)=0 day(99,1,1)=1 hours(3)=1 furnish(0,1)=0 hours(2356)=0 count(0)=2360 postOf(0,5)=8 when(1)=2392");
    edge(24, when, VAT, "day(0,1,0)=4 day(97,1,0)=0 day(98,1,0)=0 day(99,1,2)=0 hours(3)=1 furnish(0,1)=0 hours(2372)=0 count(0)=2376 when(1)=2396",
        "hours(4)=0 day(99,1,1)=2 when(1)=-9",
        "hours(4)=0 day(99,1,2)=1 postOf(0,5)=12 when(1)=2398 hours(2)=0 postOf(0,5)=16 when(1)=2398 day(99,1,1)=2 hours(4)=0 postOf(0,5)=20",
        "when(1)=-9 day(99,1,2)=1 when(1)=2400",
        "hours(9)=0 when(1)=2400 day(99,1,1)=2 when(1)=-9 day(99,1,2)=1 hours(1)=0 when(1)=2400 count(0)=2400");
  }

  private static void marks() {
    String mark = "MARK w (0 .. 5) of sheet i (0 .. 59) of a POST. -1.";
    edge(25, mark, VAT, "mark(0,0,0)=-1 hours(2)=0 mark(0,0,0)=-1 hours(1)=1 mark(0,0,0)=50 mark(0,59,5)=50 mark(0,60,0)=-1 mark(0,-1,0)=-1",
        "mark(0,0,6)=-1 mark(0,0,-1)=-1",
        "mark(1,0,0)=-1 mark(-1,0,0)=-1 mark(least,0,0)=-1 mark(most,0,0)=-1 mark(0,least,0)=-1 mark(0,most,0)=-1 mark(0,0,least)=-1",
        "mark(0,0,most)=-1 mark(1,60,6)=-1");
    // POST 0 keeps its marks, whatever its MOULDS become.
    edge(25, mark, VAT, "wire(0,0,1)=50 wire(1,5,2)=50 hours(3)=1 wire(0,0,99)=1 wire(1,5,98)=2 mark(0,0,0)=1 mark(0,58,0)=1 mark(0,1,5)=2",
        "mark(0,59,5)=2 mark(0,1,0)=50",
        "hours(3)=1 mark(0,0,0)=1 mark(1,0,0)=99 mark(1,59,5)=98");
    edge(25, mark, VAT, "hours(240)=80 mark(79,0,0)=49 mark(79,36,0)=49 mark(79,58,0)=49 mark(79,59,5)=50 mark(80,0,0)=-1 mouldOf(0,0)=50");
  }

  private static void oldSheets() {
    String first = "An OLD SHEET's marks: the first three; kept till others come: 1. -4 below -1; -6.";
    edge(26, first, THREE, "oldA(0,0,0)=1 oldA(99,99,99)=1 lies(48)=0 lies(49)=180 oldA(-1,-1,-1)=1 lies(0)=180 oldA(50,51,50)=1 lies(0)=40",
        "oldA(-2,0,0)=-4 oldA(0,-2,0)=-4",
        "oldA(0,0,-2)=-4 oldA(100,0,0)=-6 oldA(0,100,0)=-6 oldA(0,0,100)=-6 oldA(least,0,0)=-4 oldA(0,least,0)=-4 oldA(0,0,least)=-4",
        "oldA(most,0,0)=-6 oldA(0,most,0)=-6",
        "oldA(0,0,most)=-6 oldA(100,0,-2)=-4 oldA(-2,100,0)=-4 oldA(0,100,-2)=-4 oldA(100,-2,0)=-4 lies(0)=40 hours(3)=1 lies(0)=50");
    String other = "The other three. (All -1 at first.)";
    edge(27, other, THREE, "lies(0)=180 oldB(0,0,0)=1 lies(49)=0 lies(50)=180 oldB(99,99,99)=1 lies(48)=0 lies(49)=180 oldB(-1,-1,-1)=1 lies(0)=180",
        "oldB(50,49,50)=1 lies(0)=0",
        "oldB(-2,0,0)=-4 oldB(0,-2,0)=-4 oldB(0,0,-2)=-4 oldB(100,0,0)=-6 oldB(0,100,0)=-6 oldB(0,0,100)=-6 oldB(least,0,0)=-4 oldB(0,least,0)=-4",
        "oldB(0,0,least)=-4",
        "oldB(most,0,0)=-6 oldB(0,most,0)=-6 oldB(0,0,most)=-6 oldB(100,0,-2)=-4 oldB(-2,100,0)=-4 oldB(0,100,-2)=-4 oldB(100,-2,0)=-4 lies(0)=0",
        "lies(1)=180");
    edge(27, other, THREE, "oldB(50,50,50)=1 oldA(50,51,50)=1 lies(0)=40 oldB(51,50,50)=1 lies(0)=0 lies(1)=180 oldA(-1,-1,-1)=1 lies(0)=0",
        "oldB(-1,50,50)=1 lies(0)=180");

    String lies = "How many sheets of POSTS it LIES by with T (0 .. 99). -4; -6.";
    edge(28, lies, THREE, "lies(-1)=-4 lies(100)=-6 lies(least)=-4 lies(most)=-6 lies(0)=180 lies(99)=180 oldA(50,51,-1)=1 lies(0)=40 lies(1)=180");
    edge(28, lies, "lies(0)=0 lies(99)=0 lies(-1)=-4 lies(100)=-6");
    edge(28, lies, VAT, "hours(240)=80 lies(0)=4800 lies(99)=4800");

    String nearest = "Of the sheet of least NEARNESS of all of POSTS, of several the first by POSTS, then sheets: what 0 POST, 1 sheet, 2 MOULD, 3 NEARNESS,"
        + " 4 the HOUR at which its POST was done; -9 without POSTS. -2.";
    edge(29, nearest, VAT, "nearest(0)=-9 nearest(4)=-9 nearest(5)=-2 nearest(-1)=-2 nearest(least)=-2 nearest(most)=-2 hours(2)=0 nearest(3)=-9",
        "hours(1)=1 nearest(0)=0",
        "nearest(1)=0 nearest(2)=0 nearest(3)=0 nearest(4)=4 nearest(5)=-2 nearest(-1)=-2");
    // The first sheet of several; the last sheet ahead of what wandered, and the first one behind it.
    edge(29, nearest, THREE, "oldA(50,50,50)=1 nearest(0)=0 nearest(1)=0 oldA(50,51,50)=1 nearest(0)=1 nearest(1)=40 nearest(2)=0 nearest(4)=7",
        "oldA(50,50,51)=1 nearest(1)=41",
        "nearest(2)=1 oldA(50,51,51)=1 nearest(0)=1 nearest(1)=40 nearest(3)=1");
    edge(29, nearest, VAT, "hours(3)=1 wire(1,0,60)=50 hours(6)=2 wire(1,0,61)=60 hours(3)=1 oldA(60,-1,-1)=1 nearest(0)=1 nearest(1)=1",
        "nearest(2)=1 nearest(3)=0 nearest(4)=7",
        "oldA(99,-1,-1)=1 nearest(0)=3 nearest(1)=1 nearest(3)=38 nearest(4)=13 oldA(55,-1,-1)=1 nearest(0)=0 nearest(1)=0 nearest(3)=5",
        "oldA(56,-1,-1)=1 nearest(0)=1 nearest(3)=4");

    // The sheets ahead of what wandered in a POST; and what wandered by the last sheet of one is on no sheet yet.
    edge(29, nearest, VAT, "hours(3)=1 wire(0,0,60)=50 hours(3)=1 oldA(60,50,-1)=1 nearest(0)=1 nearest(1)=0 nearest(2)=0 nearest(3)=0",
        "oldA(60,51,-1)=1 nearest(1)=40 nearest(3)=0");
    edge(29, nearest, VAT, "hours(15)=5 oldA(-1,51,51)=1 oldB(51,-1,-1)=1 nearest(3)=1 nearest(0)=3 nearest(1)=20 hours(3)=1 nearest(3)=0",
        "nearest(0)=5 nearest(1)=0");

    // A POST in which nothing wandered; and two VATS, one of which ends a POST with a sheet that makes WIRES wander.
    edge(29, nearest, VAT, "hours(6)=2 wire(0,0,60)=50 wire(1,0,70)=50 hours(3)=1 oldA(60,-1,-1)=1 nearest(0)=2 nearest(1)=0 nearest(2)=0 nearest(3)=0",
        "oldA(70,-1,-1)=1 nearest(0)=2 nearest(1)=1 nearest(2)=1 nearest(3)=0 nearest(4)=10");
    edge(29, nearest, PULP, "pair(1)=0 pair(1)=1 vat(0,0)=1 hours(9)=3 vat(1,1)=1 hours(6)=4 mouldOf(1,4)=51 oldA(50,50,51)=1 oldB(51,51,50)=1 nearest(3)=1",
        "nearest(0)=3 nearest(1)=21 nearest(2)=1 nearest(4)=13");

    String span = "The first (last true: last) HOUR at which a POST was done that has a sheet of a MOULD by which it LIES with T; -9 there is none. -1; -4; -6.";
    edge(30, span, "span(0,0,true)=-1 pair(1)=0 span(0,0,true)=-9 span(1,99,false)=-9 span(2,0,true)=-1 span(-1,0,true)=-1 span(least,0,true)=-1",
        "span(most,0,true)=-1",
        "span(0,-1,true)=-4 span(0,100,true)=-6 span(0,least,false)=-4 span(0,most,false)=-6 span(2,-1,true)=-1 span(2,100,false)=-1");
    edge(30, span, THREE, "span(0,0,false)=4 span(0,0,true)=10 span(1,99,true)=10 oldA(50,51,50)=1 span(0,0,false)=7 span(0,0,true)=10",
        "span(1,0,true)=-9 span(1,1,false)=4",
        "oldA(50,50,50)=1 span(0,0,false)=4 span(0,0,true)=7 span(1,0,true)=7 oldA(99,-1,-1)=1 span(0,48,true)=-9 span(0,49,true)=10",
        "span(0,49,false)=4");
    // One POST alone; and MOULDS of a PAIR that has made no POST.
    edge(30, span, VAT, "pair(1)=1 hours(3)=1 span(0,0,false)=4 span(0,0,true)=4 span(1,0,false)=4 span(2,99,true)=-9 span(3,99,false)=-9",
        "span(4,0,true)=-1");
    edge(30, span, PULP, "pair(1)=0 pair(1)=1 vat(0,1)=1 wire(2,0,60)=50 wire(3,0,70)=50 hours(6)=2 oldA(60,-1,-1)=1 span(2,0,false)=4",
        "span(2,0,true)=7 span(3,0,true)=-9",
        "span(3,9,true)=-9 span(3,10,true)=7 oldA(70,-1,-1)=1 span(3,0,false)=4 span(2,0,true)=-9 span(0,99,true)=-9 oldA(60,-1,-1)=1",
        "oldB(50,-1,-1)=1 span(2,0,true)=7",
        "oldB(51,-1,-1)=1 span(2,0,false)=7 oldA(70,-1,-1)=1 oldB(-1,50,-1)=1 span(3,0,true)=7 oldB(-1,51,-1)=1 span(3,0,false)=7");
    edge(30, span, VAT, "hours(240)=80 span(0,0,false)=4 span(0,0,true)=241 oldA(99,-1,-1)=1 span(0,0,true)=-9 span(1,0,false)=-9",
        "span(0,50,true)=241");
    // A WIRE that is set between two POSTS is on the sheets of the second alone.
    edge(30, span, VAT, "hours(3)=1 wire(0,0,60)=50 hours(3)=1 oldA(60,-1,-1)=1 span(0,0,false)=7 span(1,0,true)=-9 oldA(50,-1,-1)=1 span(0,0,true)=4",
        "span(1,0,true)=7");
    // What wanders by the last sheet of a POST is on no sheet of it.
    edge(30, span, VAT, "hours(15)=5 oldB(51,-1,-1)=1 span(0,0,true)=-9 hours(3)=1 span(0,0,false)=19 span(0,0,true)=19");
  }

  private static void looks() {
    // Two VATS end POSTS in the same HOUR: numbers go by VATS.
    edge(34, "Of a POST: 0 0 WET", PULP, "pair(1)=0 pair(1)=1 vat(0,1)=1 vat(2,0)=1 hours(3)=2 postOf(0,1)=1 postOf(1,1)=0 postOf(0,3)=4",
        "postOf(1,3)=4");
  }

  private static void count() {
    String count = "-9 for another what.";
    edge(37, count, "count(-1)=-9 count(10)=-9 count(17)=-9 count(19)=-9 count(29)=-9 count(39)=-9 count(40)=-9 count(least)=-9 count(most)=-9",
        "count(11)=0 count(12)=0");
    edge(37, "11 .. 16 REFUSALS -1 .. -6", "count(11)=0 count(16)=0 size(0)=-1 count(11)=1 count(12)=0 nearest(9)=-2 nearest(9)=-2 count(12)=2",
        "order(0,1,1,1,1)=0",
        "fill(0)=1000000003 fill(0)=1000000003 fill(0)=1000000003 count(13)=3 hides(0)=-4 count(14)=1 count(15)=0 hides(1001)=-6 hides(1001)=-6",
        "count(16)=2 count(11)=1",
        "fill(1)=1000000001 count(11)=2");
    edge(37, "20 + k STORE, 30 + k PULP of KIND k", "rags(0,1)=1 rags(8,2)=2 count(20)=1 count(28)=2 count(21)=0 count(27)=0 kind(8,0,9,1)=1",
        "kind(0,0,9,1)=1 heap(0,1)=0",
        "heap(8,2)=1 load(0,0,1)=1 load(1,1,2)=1 hours(1)=0 count(30)=14 count(38)=28 count(31)=0 count(37)=0 count(20)=0 count(28)=0");
    edge(37, "0 HOUR, 1 HEAPS, 2 PAIRS, 3 POSTS, 4 ORDERS, 5 COINS and 1000000000, 6 HIDES, 7 sheets ever made, 8 pounds SPOILED, 9 POSTS in THE LOFT", SHEETS,
        "count(0)=72 count(1)=1 count(2)=1 count(3)=17 count(4)=0 count(5)=1000000000 count(6)=3 count(7)=1020 count(8)=0 count(9)=0 duty(1,99)=0",
        "order(0,1,2,9,0)=0",
        "fill(0)=-198 count(4)=1 count(5)=999999802 heap(0,400)=1 hours(984)=0 count(8)=400 count(0)=1056");
  }
}

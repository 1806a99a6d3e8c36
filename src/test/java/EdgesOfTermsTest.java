/** The boundary cases that the document's "Terms" name, by its parts I to V. */
public final class EdgesOfTermsTest {
  private static final String PULP = Runs.PULP;
  private static final String VAT = Runs.VAT;
  private static final String SHEETS = Runs.SHEETS;
  /** A HEAP of 400 pounds of KIND 0 that is RIPE at once and takes one HOUR to beat. */
  private static final String HEAP = "kind(0,0,40,1)=1 rags(0,400)=400 heap(0,400)=0 ";
  /** VAT, and the one POST that is done at HOUR 4 waits in the wet. */
  private static final String WAITS = VAT + "loft(0)=10 hours(3)=1 furnish(0,1)=0 ";
  private static final Edges EDGES = new Edges();

  public static void main(String[] args) {
    use();
    hoursAndDays();
    rows();
    kinds();
    heaps();
    beatersAtFirst();
    moulds();
    wanderingWires();
    vatsAndPosts();
    hourByItsDay();
    waterForBeaters();
    waterForVats();
    pulpForVats();
    eightyPosts();
    roomInTheLoft();
    drying();
    sizing();
    kindsOfVats();
    orders();
    best();
    foretelling();
    foretellingWhatIs();
    oldSheets();
    refusals();
    for (String part : new String[] {"I", "II", "III", "IV", "V"}) EDGES.mustHave(part);
    EDGES.end();
  }

  private static void edge(String part, String sentence, String... calls) {
    EDGES.edge(part, sentence, calls);
  }

  private static void use() {
    String calls = "An object is used for at most 512 calls after it has been made";
    edge("use", calls, Runs.times(510, "dayOf(0,1)=4"), "hides(7)=7 count(6)=7");
  }

  private static void hoursAndDays() {
    String hours = "HOURS go on from 0 (2400 at most)";
    edge("I", hours, "count(0)=0 hours(1)=0 count(0)=1 hours(2398)=0 count(0)=2399 hours(2)=-6 count(0)=2399 hours(1)=0",
        "count(0)=2400 hours(1)=-6 count(0)=2400");
    edge("I", hours, "hours(2401)=-6 count(0)=0 hours(2400)=0 count(0)=2400");

    String days = "DAY is HOUR by 24 (0 .. 100)";
    edge("I", days, "kind(0,0,40,30)=1 rags(0,9)=9 heap(0,9)=0 load(0,0,9)=30 day(0,0,6)=20 day(1,0,0)=6 day(2,0,6)=0",
        "hours(23)=0 beaterOf(0,2)=7 hours(1)=0 beaterOf(0,2)=6 hours(1)=0 beaterOf(0,2)=6 hours(23)=0 beaterOf(0,2)=6",
        "hours(1)=0 beaterOf(0,2)=5");
    edge("I", days, SHEETS, "order(0,1,1,99,8)=0 order(0,1,1,99,8)=1 hours(2327)=0 fill(0)=8 hours(1)=0 fill(1)=4");
    edge("I", days, SHEETS, "order(0,1,1,100,8)=0 hours(2328)=0 count(0)=2400 fill(0)=8");
  }

  private static void rows() {
    edge("I", "Rows by DAYS 0 .. 100", "day(0,0,1)=20 day(100,0,3)=1 dayOf(0,0)=1 dayOf(100,0)=3 day(-1,0,5)=-1 day(101,0,5)=-1",
        "dayOf(-1,0)=-1 dayOf(101,0)=-1 day(0,1,1)=4 day(100,1,3)=1 day(-1,1,5)=-1 day(101,1,5)=-1 day(0,2,1)=0 day(100,2,1)=0",
        "dayOf(100,2)=1 day(-1,2,1)=-1 day(101,2,1)=-1 dayOf(101,2)=-1");
    edge("I", "WATER (0 .. 60)", "day(3,0,0)=20 dayOf(3,0)=0 day(3,0,60)=0 dayOf(3,0)=60 day(3,0,61)=-6 dayOf(3,0)=60 day(3,0,-2)=-4",
        "dayOf(3,0)=60");
    edge("I", "DRY (0 .. 9)", "day(3,1,0)=4 dayOf(3,1)=0 day(3,1,9)=0 dayOf(3,1)=9 day(3,1,10)=-6 dayOf(3,1)=9 day(3,1,-2)=-4",
        "dayOf(3,1)=9");
    edge("I", "told or not", "day(3,0,0)=20 dayOf(4,0)=0 day(3,0,-1)=0 dayOf(4,0)=20 day(3,1,0)=4 dayOf(4,1)=0 day(3,1,-1)=0 dayOf(4,1)=4");

    String mean = "What is not told is the mean, cut, of the latest one that is told ahead of it and the first one behind it";
    edge("I", mean, "day(10,0,40)=20 day(20,0,9)=40 dayOf(10,0)=40 dayOf(11,0)=24 dayOf(15,0)=24 dayOf(19,0)=24 dayOf(20,0)=9");
    edge("I", mean, "day(5,0,60)=20 day(10,0,40)=60 day(20,0,9)=40 day(25,0,1)=9 dayOf(11,0)=24 dayOf(19,0)=24 dayOf(7,0)=50",
        "dayOf(22,0)=5 dayOf(9,0)=50 dayOf(21,0)=5");
    edge("I", mean, "day(0,0,1)=20 day(100,0,60)=1 dayOf(0,0)=1 dayOf(1,0)=30 dayOf(50,0)=30 dayOf(99,0)=30 dayOf(100,0)=60");
    edge("I", mean, "day(10,1,0)=4 day(20,1,3)=0 dayOf(10,1)=0 dayOf(11,1)=1 dayOf(19,1)=1 day(15,1,0)=1 dayOf(14,1)=0 dayOf(16,1)=1");
    edge("I", mean, "day(10,0,40)=20 day(12,0,9)=40 dayOf(11,0)=24 day(11,0,0)=24 dayOf(11,0)=0 day(11,0,-1)=0 dayOf(11,0)=24");

    String one = "of one alone that one";
    edge("I", one, "day(50,0,7)=20 dayOf(0,0)=7 dayOf(49,0)=7 dayOf(50,0)=7 dayOf(51,0)=7 dayOf(100,0)=7 dayOf(50,1)=4");
    edge("I", one, "day(0,1,9)=4 dayOf(1,1)=9 dayOf(100,1)=9 dayOf(0,0)=20");
    edge("I", one, "day(100,1,0)=4 dayOf(0,1)=0 dayOf(99,1)=0");
    edge("I", one, "day(10,0,40)=20 day(20,0,9)=40 dayOf(0,0)=40 dayOf(9,0)=40 dayOf(21,0)=9 dayOf(100,0)=9");

    edge("I", "of none 20, 4", "dayOf(0,0)=20 dayOf(50,0)=20 dayOf(100,0)=20 dayOf(0,1)=4 dayOf(50,1)=4 dayOf(100,1)=4 day(7,0,9)=20",
        "dayOf(0,0)=9 dayOf(0,1)=4 day(7,0,-1)=9 dayOf(0,0)=20 dayOf(7,0)=20 dayOf(100,0)=20 day(7,1,9)=4 dayOf(0,1)=9 dayOf(0,0)=20",
        "day(7,1,-1)=9 dayOf(0,1)=4 dayOf(7,1)=4 dayOf(100,1)=4");
    edge("I", "of none 20, 4", "day(7,0,-1)=20 dayOf(7,0)=20 day(7,1,-1)=4 dayOf(7,1)=4");
    edge("I", "FROST of a DAY: told, none at first", "dayOf(0,2)=0 dayOf(50,2)=0 dayOf(100,2)=0 day(50,2,1)=0 dayOf(49,2)=0 dayOf(50,2)=1",
        "dayOf(51,2)=0 day(52,2,1)=0 dayOf(51,2)=0 day(50,2,0)=1 dayOf(50,2)=0 dayOf(52,2)=1");
  }

  private static void kinds() {
    edge("I", "RAGS have KINDS 0 .. 8", "rags(0,1)=1 rags(8,2)=2 rags(-1,1)=-1 rags(9,1)=-1 count(20)=1 count(28)=2 kind(0,1,1,1)=1",
        "kind(8,1,1,1)=1 kind(-1,1,1,1)=-1 kind(9,1,1,1)=-1");

    String ripe = "RIPE (0 .. 20; 5 at first)";
    for (int k = 0; k < 9; k++) {
      edge("I", ripe, "rags(K,9)=9 heap(K,9)=0 hours(119)=0 heapOf(0,3)=0 load(0,0,1)=-3 hours(1)=0 heapOf(0,3)=1 load(0,0,1)=8"
          .replace("K", String.valueOf(k)));
    }
    edge("I", ripe, "kind(0,0,1,1)=1 rags(0,9)=9 heap(0,9)=0 heapOf(0,3)=1 load(0,0,1)=1 kind(0,-1,1,1)=-4 load(1,0,1)=1");
    edge("I", ripe, "kind(0,20,1,1)=1 rags(0,9)=9 heap(0,9)=0 kind(0,21,2,2)=-6 hours(479)=0 heapOf(0,3)=0 load(0,0,1)=-3 hours(1)=0",
        "heapOf(0,3)=1 load(0,0,1)=1");

    String spoil = "SPOIL (1 .. 40; 10 at first)";
    for (int k = 0; k < 9; k++) {
      edge("I", spoil, "rags(K,9)=9 heap(K,9)=0 hours(383)=0 heapOf(0,1)=9 heapOf(0,4)=0 hours(1)=0 heapOf(0,1)=0 heapOf(0,4)=9"
          .replace("K", String.valueOf(k)));
    }
    edge("I", spoil, "kind(0,0,1,1)=1 rags(0,9)=9 heap(0,9)=0 kind(0,0,0,1)=-4 hours(47)=0 heapOf(0,1)=9 hours(1)=0 heapOf(0,1)=0");
    edge("I", spoil, "kind(0,0,40,1)=1 rags(0,9)=9 heap(0,9)=0 kind(0,0,41,1)=-6 hours(983)=0 heapOf(0,1)=9 hours(1)=0 heapOf(0,1)=0");

    String beat = "BEAT (1 .. 30; 8 at first)";
    for (int k = 0; k < 9; k++) {
      edge("I", beat, "rags(K,9)=9 heap(K,9)=0 hours(120)=0 load(0,0,9)=8 hours(7)=0 beaterOf(0,2)=1 hours(1)=0 beaterOf(0,0)=0"
          .replace("K", String.valueOf(k)));
    }
    edge("I", beat, "kind(0,0,9,1)=1 rags(0,9)=9 heap(0,9)=0 kind(0,0,9,0)=-4 load(0,0,1)=1 hours(1)=0 beaterOf(0,3)=1");
    edge("I", beat, "kind(0,0,9,30)=1 rags(0,9)=9 heap(0,9)=0 kind(0,0,9,31)=-6 load(0,0,1)=30 hours(29)=0 beaterOf(0,2)=1 hours(1)=0",
        "beaterOf(0,2)=0 beaterOf(0,3)=1");

    edge("I", "a STORE of pounds (0 .. 20000; 0 at first)", Runs.times(9, "count(2#)=0"), "rags(4,19999)=19999 rags(4,2)=-6",
        "count(24)=19999 rags(4,1)=20000 rags(4,1)=-6 count(24)=20000 rags(5,20001)=-6 rags(5,20000)=20000 count(25)=20000");
    edge("I", "a STORE of pounds (0 .. 20000; 0 at first)", "rags(4,9)=9 heap(4,10)=-6 heap(4,9)=0 count(24)=0 heap(4,1)=-6 count(24)=0",
        "rags(4,20000)=20000");
  }

  private static void heaps() {
    String numbers = "HEAPS have numbers from 0 on (40 at most are ever laid)";
    edge("I", numbers, "rags(0,100)=100 heapOf(0,0)=-1", Runs.times(39, "heap(0,1)=#"), "heapOf(39,0)=-1 heap(0,1)=39 heapOf(39,1)=1 heap(0,1)=-6",
        "count(1)=40 count(20)=60 heapOf(40,0)=-1");
    // Those that are SPOILED and those that were beaten count as well.
    edge("I", numbers, "kind(0,0,1,1)=1 rags(0,100)=100", Runs.times(39, "heap(0,1)=#"), "hours(48)=0 count(8)=39 heap(0,1)=39 load(0,39,1)=1",
        "hours(1)=0 heap(0,1)=-6 count(1)=40");

    edge("I", "AGE: how many whole times 24 HOURS ago", "rags(0,9)=9 hours(5)=0 heap(0,9)=0 heapOf(0,2)=0 hours(23)=0 heapOf(0,2)=0",
        "hours(1)=0 heapOf(0,2)=1 hours(23)=0 heapOf(0,2)=1 hours(1)=0 heapOf(0,2)=2 hours(2347)=0 heapOf(0,2)=99");
    edge("I", "AGE: how many whole times 24 HOURS ago", "rags(0,9)=9 heap(0,9)=0 hours(2399)=0 heapOf(0,2)=99 hours(1)=0 heapOf(0,2)=100");

    String ripe = "It is RIPE with an AGE of RIPE or more";
    edge("I", ripe, "kind(0,2,9,1)=1 rags(0,9)=9 hours(5)=0 heap(0,9)=0 hours(47)=0 heapOf(0,3)=0 load(0,0,1)=-3 hours(1)=0 heapOf(0,3)=1",
        "load(0,0,1)=1 hours(24)=0 heapOf(0,3)=1 load(0,0,1)=1");

    String spoiled = "it is SPOILED (its POUNDS are lost) as soon as its AGE is above RIPE and SPOIL";
    edge("I", spoiled, "kind(0,1,2,1)=1 rags(0,9)=9 hours(5)=0 heap(0,9)=0 hours(95)=0 heapOf(0,2)=3 heapOf(0,1)=9 heapOf(0,3)=1 count(8)=0",
        "hours(1)=0 heapOf(0,2)=4 heapOf(0,1)=0 heapOf(0,3)=0 heapOf(0,4)=9 count(8)=9 load(0,0,1)=-3 count(20)=0");
    edge("I", spoiled, "kind(0,20,40,1)=1 rags(0,400)=400 heap(0,400)=0 hours(1463)=0 heapOf(0,2)=60 heapOf(0,1)=400 load(0,0,1)=1",
        "hours(1)=0 heapOf(0,2)=61 heapOf(0,1)=0 heapOf(0,4)=399 count(8)=399");
    // Those that were laid later are SPOILED later; what was lost is lost once.
    edge("I", spoiled, "kind(0,0,1,1)=1 rags(0,9)=9 heap(0,2)=0 hours(1)=0 heap(0,3)=1 hours(46)=0 count(8)=0 hours(1)=0 count(8)=2",
        "heapOf(1,1)=3 hours(1)=0 count(8)=5 hours(100)=0 count(8)=5 heapOf(0,4)=2 heapOf(1,4)=3");
  }

  private static void beatersAtFirst() {
    edge("II", "BEATERS 0 .. 3 each are empty (at first)", Runs.times(4, "beaterOf(#,0)=0 beaterOf(#,1)=-9 beaterOf(#,2)=0"),
        "beaterOf(-1,0)=-1 beaterOf(4,0)=-1", HEAP, "load(-1,0,1)=-1 load(4,0,1)=-1 load(0,0,1)=1 load(3,0,1)=1 load(0,0,1)=-3 load(3,0,1)=-3");
    edge("II", "HOURS that are left to beat", "kind(0,0,9,2)=1 rags(0,9)=9 heap(0,9)=0 load(0,0,9)=2 beaterOf(0,2)=2 hours(1)=0 beaterOf(0,2)=1",
        "beaterOf(0,0)=9 load(0,0,1)=-3 hours(1)=0 beaterOf(0,2)=0 beaterOf(0,0)=0");
    edge("II", "IRON: how many times it ended", Runs.times(4, "beaterOf(#,3)=0"), HEAP, "load(2,0,1)=1 beaterOf(2,3)=0 hours(1)=0 beaterOf(2,3)=1",
        "hours(1)=0 beaterOf(2,3)=1 load(2,0,1)=1 hours(1)=0 beaterOf(2,3)=2 beaterOf(1,3)=0 beaterOf(3,3)=0");
    edge("II", "PULP of a KIND in ounces: 0 at first", Runs.times(9, "count(3#)=0"));
  }

  private static void moulds() {
    String pairs = "PAIRS 0 .. 3 come as they are told, PAIR k being MOULDS 2 k and 2 k and 1";
    edge("II", pairs, "mouldOf(0,0)=-1 vat(0,0)=-1 pair(1)=0 mouldOf(0,0)=50 mouldOf(1,0)=50 mouldOf(2,0)=-1 vat(0,1)=-1 pair(1)=1 mouldOf(3,0)=50",
        "mouldOf(4,0)=-1 pair(1)=2 mouldOf(5,0)=50 mouldOf(6,0)=-1 vat(0,3)=-1 pair(1)=3 mouldOf(7,0)=50 mouldOf(8,0)=-1 vat(0,3)=1 vat(0,4)=-1",
        "pair(1)=-6 count(2)=4 mouldOf(8,0)=-1");
    edge("II", pairs, PULP, Runs.times(4, "pair(1)=#"), "vat(0,3)=1 hours(3)=1 mouldOf(5,6)=0 mouldOf(6,6)=30 mouldOf(7,6)=30 nearest(2)=6",
        "vat(0,0)=1 hours(3)=1 mouldOf(0,6)=30 mouldOf(1,6)=30 mouldOf(2,6)=0 mouldOf(7,6)=30");
    edge("II", "each with six WIRES (0 .. 99)", "pair(1)=0 wire(0,0,0)=50 wire(0,0,-1)=-4 mouldOf(0,0)=0 wire(0,0,99)=0 wire(0,0,100)=-6",
        "mouldOf(0,0)=99 wire(1,5,99)=50 mouldOf(1,5)=99 wire(1,6,9)=-1 wire(1,-1,9)=-1 mouldOf(1,5)=99 mouldOf(1,4)=50 mouldOf(0,5)=50");
    edge("II", "a COUNT of sheets (0 at first)", "pair(1)=0 mouldOf(0,6)=0 mouldOf(1,6)=0 pair(1)=1 mouldOf(2,6)=0 mouldOf(3,6)=0");
    edge("II", "the PAIR has a WEIGHT (1 .. 8 ounces a sheet)", "pair(0)=-1 pair(9)=-1 pair(1)=0 pair(8)=1 count(2)=2");
    edge("II", "the PAIR has a WEIGHT (1 .. 8 ounces a sheet)", PULP, "pair(1)=0 pair(8)=1 vat(0,0)=1 hours(1)=0 count(30)=5580 vat(1,1)=1",
        "hours(1)=0 count(30)=5400");
  }

  private static void wanderingWires() {
    // Two sheets a pound: 49 sheets of each MOULD, then one more of each, and one more.
    edge("II", "Each time a MOULD's COUNT becomes a multiple of 50", HEAP, "day(0,0,60)=20 pair(7)=0 vat(0,0)=1 load(0,0,49)=1 hours(5)=1",
        "mouldOf(0,6)=49 mouldOf(1,6)=49 mouldOf(0,1)=50 mouldOf(1,2)=50 load(0,0,1)=1 hours(1)=0 mouldOf(0,6)=50 mouldOf(1,6)=50",
        "mouldOf(0,1)=51 mouldOf(1,2)=51 load(0,0,1)=1 hours(1)=0 mouldOf(0,6)=51 mouldOf(1,6)=51 mouldOf(0,1)=51 mouldOf(1,2)=51",
        "mouldOf(0,2)=50 mouldOf(1,3)=50 mouldOf(0,0)=50 mouldOf(1,1)=50");
    edge("II", "Each time a MOULD's COUNT becomes a multiple of 50", VAT, "hours(9)=3 mouldOf(0,6)=90 mouldOf(0,2)=50 hours(1)=0 mouldOf(0,6)=100",
        "mouldOf(0,2)=51 mouldOf(1,3)=51 mouldOf(0,1)=51 mouldOf(1,2)=51");

    // COUNT goes on as the PAIR goes to another VAT.
    edge("II", "Each time a MOULD's COUNT becomes a multiple of 50", VAT, "hours(3)=1 vat(0,-1)=1 hours(9)=0 vat(2,0)=1 hours(1)=0 mouldOf(0,6)=40",
        "mouldOf(0,1)=50",
        "hours(1)=0 mouldOf(0,6)=50 mouldOf(0,1)=51 mouldOf(1,2)=51");

    String which = "WIRE (c and MOULD) modulo 6 wanders by 1";
    edge("II", which, PULP, Runs.times(4, "pair(1)=#"), Runs.times(4, "vat(0,#)=1 hours(6)=2"), "mouldOf(0,1)=51 mouldOf(1,2)=51 mouldOf(2,3)=51",
        "mouldOf(3,4)=51 mouldOf(4,5)=51 mouldOf(5,0)=51 mouldOf(6,1)=51 mouldOf(7,2)=51 mouldOf(0,0)=50 mouldOf(5,5)=50 mouldOf(6,0)=50",
        "mouldOf(7,1)=50 mouldOf(4,0)=50 mouldOf(5,1)=50 mouldOf(6,2)=50 mouldOf(7,3)=50");
    edge("II", which, VAT, "hours(25)=8 mouldOf(0,0)=50 mouldOf(0,1)=51 mouldOf(0,2)=51 mouldOf(0,3)=51 mouldOf(0,4)=51 mouldOf(0,5)=51",
        "mouldOf(1,0)=51 mouldOf(1,1)=50 mouldOf(1,2)=51 mouldOf(1,3)=51 mouldOf(1,4)=51 mouldOf(1,5)=51");

    String way = "up if (c by 6, cut) is even, else down";
    edge("II", way, VAT, "hours(25)=8 mouldOf(0,6)=250 mouldOf(0,5)=51 mouldOf(0,0)=50 hours(5)=2 mouldOf(0,6)=300 mouldOf(0,0)=49 mouldOf(1,1)=49",
        "hours(25)=8 mouldOf(0,6)=550 mouldOf(0,5)=50 mouldOf(0,0)=49 mouldOf(1,0)=50 hours(5)=2 mouldOf(0,6)=600 mouldOf(0,0)=50",
        "mouldOf(1,1)=50 hours(25)=8 mouldOf(0,6)=850 mouldOf(0,5)=51 hours(5)=2 mouldOf(0,6)=900 mouldOf(0,0)=49");
    edge("II", way, VAT, "hours(235)=78 mouldOf(0,6)=2350 mouldOf(0,0)=49 mouldOf(0,5)=50 hours(5)=2 mouldOf(0,6)=2400 mouldOf(0,0)=50");

    String ends = "not below 0, above 99";
    edge("II", ends, VAT, "wire(0,1,98)=50 wire(1,2,99)=50 hours(5)=1 mouldOf(0,6)=50 mouldOf(0,1)=99 mouldOf(1,2)=99 hours(30)=10",
        "mouldOf(0,6)=350 mouldOf(0,1)=98 mouldOf(1,2)=98");
    edge("II", ends, VAT, "wire(0,0,0)=50 wire(1,1,1)=50 hours(30)=10 mouldOf(0,6)=300 mouldOf(0,0)=0 mouldOf(1,1)=0 hours(30)=10",
        "mouldOf(0,6)=600 mouldOf(0,0)=1 mouldOf(1,1)=1");
  }

  private static void vatsAndPosts() {
    String vats = "VATS 0 .. 2 each have a PAIR or none (no PAIR at two VATS), and a KIND";
    edge("II", vats, Runs.times(3, "vatOf(#,0)=-9 vatOf(#,1)=0"), "vatOf(-1,0)=-1 vatOf(3,0)=-1 pair(1)=0 vat(-1,0)=-1 vat(3,0)=-1 vat(2,0)=1",
        "vat(0,0)=-3 vat(1,0)=-3 vat(2,0)=1 vatOf(0,0)=-9 vatOf(2,0)=0 vat(2,-1)=1 vatOf(2,0)=-9 vat(0,0)=1 vat(1,-1)=1 vat(2,-1)=1");

    String turns = "The sheets of a VAT are made by its PAIR's MOULDS in turns, the first MOULD first in each POST";
    // One sheet and then 20 an HOUR, so that every HOUR ends with a sheet of the first MOULD.
    edge("II", turns, HEAP, "pair(8)=0 vat(0,0)=1 wire(0,0,10)=50 wire(1,0,20)=50 load(0,0,1)=1 hours(1)=0 mouldOf(0,6)=1 mouldOf(1,6)=0",
        "load(0,0,100)=1 hours(2)=0 vatOf(0,2)=41 mouldOf(0,6)=21 mouldOf(1,6)=20 hours(1)=1 vatOf(0,2)=1 mouldOf(0,6)=31 mouldOf(1,6)=30",
        "hours(3)=1 vatOf(0,2)=1 mouldOf(0,6)=61 mouldOf(1,6)=60 mark(0,0,0)=10 mark(0,1,0)=20 mark(0,58,0)=10 mark(0,59,0)=20",
        "mark(1,0,0)=10 mark(1,1,0)=20 mark(1,58,0)=10 mark(1,59,0)=20");

    String posts = "A POST are 60 sheets";
    edge("II", posts, HEAP, "pair(4)=0 vat(0,0)=1 load(0,0,17)=1 hours(3)=0 count(7)=59 vatOf(0,2)=59 count(3)=0 postOf(0,0)=-1 load(0,0,1)=1",
        "hours(1)=1 count(7)=63 vatOf(0,2)=3 count(3)=1 postOf(0,3)=4 postOf(1,0)=-1");
    edge("II", posts, HEAP, "pair(7)=0 vat(0,0)=1 load(0,0,30)=1 hours(2)=0 vatOf(0,2)=40 hours(1)=1 vatOf(0,2)=0 count(7)=60 count(30)=0",
        "count(3)=1");

    String marks = "MARKS of a sheet: the WIRES of its MOULD as it was made (ahead of what wanders by it)";
    edge("II", marks, VAT, "hours(6)=2 mark(0,58,1)=50 mark(1,36,1)=50 mark(1,38,1)=50 mark(1,40,1)=51 mark(1,58,1)=51 mark(1,37,2)=50",
        "mark(1,39,2)=50 mark(1,41,2)=51 mark(1,59,2)=51 mark(1,39,1)=50 mark(1,41,1)=50 mark(1,38,2)=50 mark(1,40,2)=50");
    // VATS 1 and 2 with PAIRS 1 and 0, and MOULDS whose WIRES differ from the first sheet on.
    edge("II", marks, PULP, "pair(1)=0 pair(1)=1 vat(1,1)=1 vat(2,0)=1 wire(0,0,10)=50 wire(1,0,11)=50 wire(2,0,12)=50 wire(3,0,13)=50 hours(6)=4",
        "mark(0,0,0)=12 mark(0,59,0)=13 mark(1,0,0)=10 mark(1,59,0)=11 mark(2,0,0)=12 mark(2,1,0)=13 mark(2,58,0)=12 mark(2,59,0)=13 mark(3,0,0)=10",
        "mark(3,1,0)=11 mark(3,58,0)=10 mark(3,59,0)=11 mark(2,38,3)=50 mark(2,40,3)=51 mark(2,39,4)=50 mark(2,41,4)=51 mark(3,38,1)=50",
        "mark(3,40,1)=51",
        "mark(3,39,2)=50 mark(3,41,2)=51 mark(2,40,1)=50 mark(3,40,3)=50");
    // PAIR 1 comes to its 50th sheets three HOURS behind PAIR 0.
    edge("II", marks, PULP, "pair(1)=0 pair(1)=1 vat(0,0)=1 hours(3)=1 vat(1,1)=1 hours(6)=4 postOf(4,1)=1 mark(4,38,3)=50 mark(4,40,3)=51",
        "mark(4,39,4)=50",
        "mark(4,41,4)=51 mark(3,0,1)=51 mark(3,59,2)=51");
    // The 150th sheet is the last one of its POST.
    edge("II", marks, VAT, "hours(15)=5 mouldOf(0,6)=150 mouldOf(0,3)=51 mouldOf(1,4)=51 mark(4,58,3)=50 mark(4,59,4)=50 hours(3)=1",
        "mark(5,0,3)=51 mark(5,1,4)=51 mark(4,58,3)=50");
  }

  private static void hourByItsDay() {
    String hour = "HOUR is 1 more; by the DAY in which it began";
    edge("III", hour, "kind(0,0,40,30)=1 rags(0,9)=9 heap(0,9)=0 load(0,0,9)=30 day(0,0,0)=20 day(1,0,6)=0 hours(24)=0 beaterOf(0,2)=30",
        "hours(1)=0 beaterOf(0,2)=29 count(0)=25");
    edge("III", hour, VAT, "day(0,1,1)=4 day(1,1,3)=1 hours(22)=7 postOf(6,5)=2 hours(1)=0 count(0)=24 postOf(6,5)=3 hours(1)=1 postOf(6,5)=6");

    String frost = "with FROST neither BEATERS nor VATS work, and DRY is 0";
    edge("III", frost, "kind(0,0,40,30)=1 rags(0,9)=9 heap(0,9)=0 load(0,0,9)=30 day(1,2,1)=0 hours(24)=0 beaterOf(0,2)=6 hours(1)=0",
        "beaterOf(0,2)=6 hours(23)=0 beaterOf(0,2)=6 hours(1)=0 beaterOf(0,2)=5");
    edge("III", frost, VAT, "day(1,2,1)=0 hours(23)=7 vatOf(0,2)=40 vatOf(0,3)=0 hours(1)=0 vatOf(0,2)=40 vatOf(0,3)=1 hours(23)=0 vatOf(0,2)=40",
        "vatOf(0,3)=24 count(7)=460 count(30)=5140 hours(1)=1 vatOf(0,3)=24 count(7)=480");
    edge("III", frost, VAT, "day(1,2,1)=0 hours(23)=7 postOf(6,5)=12 hours(1)=0 postOf(6,5)=12 hours(23)=0 postOf(6,5)=12 postOf(6,0)=1",
        "hours(1)=1 postOf(6,5)=16");
    // What is WET comes into THE LOFT and HEAPS are SPOILED with FROST, too.
    edge("III", frost, VAT, "loft(0)=10 day(1,2,1)=0 hours(23)=7 loft(2)=0 hours(1)=0 postOf(0,4)=25 postOf(1,4)=25 postOf(2,4)=-9 postOf(0,5)=0");
    edge("III", frost, "kind(0,0,1,1)=1 rags(0,9)=9 heap(0,9)=0 day(1,2,1)=0 hours(47)=0 heapOf(0,1)=9 hours(1)=0 heapOf(0,1)=0 heapOf(0,4)=9");
  }

  private static void waterForBeaters() {
    String four = "kind(0,0,40,9)=1 rags(0,400)=400 heap(0,400)=0 " + Runs.times(4, "load(#,0,9)=9");
    String water = "1 BEATERS, by numbers, that are not empty: if W is 6 or more it is 6 less and that one has 1 HOUR less left";
    edge("III", water, four, "day(0,0,0)=20 hours(1)=0 beaterOf(0,2)=9 day(0,0,5)=0 hours(1)=0 beaterOf(0,2)=9 day(0,0,6)=5 hours(1)=0",
        "beaterOf(0,2)=8 beaterOf(1,2)=9 day(0,0,11)=6 hours(1)=0 beaterOf(0,2)=7 beaterOf(1,2)=9 day(0,0,12)=11 hours(1)=0 beaterOf(0,2)=6",
        "beaterOf(1,2)=8 beaterOf(2,2)=9 day(0,0,17)=12 hours(1)=0 beaterOf(1,2)=7 beaterOf(2,2)=9 day(0,0,18)=17 hours(1)=0 beaterOf(2,2)=8",
        "beaterOf(3,2)=9 day(0,0,23)=18 hours(1)=0 beaterOf(2,2)=7 beaterOf(3,2)=9 day(0,0,24)=23 hours(1)=0 beaterOf(0,2)=2 beaterOf(3,2)=8");
    edge("III", water, HEAP, "kind(0,0,40,9)=1 load(1,0,9)=9 load(3,0,9)=9 day(0,0,6)=20 hours(1)=0 beaterOf(1,2)=8 beaterOf(3,2)=9 beaterOf(0,2)=0",
        "day(0,0,12)=6 hours(1)=0 beaterOf(1,2)=7 beaterOf(3,2)=8");
    edge("III", "with none left: PULP of its KIND is more by 14 times its POUNDS; it is empty, IRON 1 more", "kind(8,0,40,2)=1 rags(8,400)=400",
        "heap(8,400)=0 load(0,0,1)=2 load(1,0,100)=2 hours(1)=0 count(38)=0 beaterOf(0,0)=1 beaterOf(0,3)=0 hours(1)=0 count(38)=1414",
        "count(30)=0 beaterOf(0,0)=0 beaterOf(0,1)=-9 beaterOf(0,2)=0 beaterOf(0,3)=1 beaterOf(1,3)=1 hours(1)=0 count(38)=1414");
  }

  private static void waterForVats() {
    String water = "2 VATS, by numbers, with a PAIR: if W is 2 or more";
    edge("III", water, PULP, "pair(1)=0 pair(1)=1 pair(1)=2 vat(0,0)=1 vat(1,1)=1 vat(2,2)=1 day(0,0,1)=60 hours(1)=0 vatOf(0,2)=0 vatOf(0,3)=1",
        "day(0,0,2)=1 hours(1)=0 vatOf(0,2)=20 vatOf(1,2)=0 vatOf(1,3)=2 day(0,0,3)=2 hours(1)=0 vatOf(0,2)=40 vatOf(1,2)=0 day(0,0,4)=3",
        "hours(1)=1 vatOf(0,2)=0 vatOf(1,2)=20 vatOf(2,2)=0 day(0,0,5)=4 hours(1)=0 vatOf(1,2)=40 vatOf(2,2)=0 day(0,0,6)=5 hours(1)=1",
        "vatOf(0,2)=40 vatOf(1,2)=0 vatOf(2,2)=20 vatOf(0,3)=1 vatOf(1,3)=3 vatOf(2,3)=5");
    edge("III", water, PULP, "pair(1)=0 vat(2,0)=1 day(0,0,2)=60 hours(1)=0 vatOf(2,2)=20 vatOf(0,3)=0 vatOf(1,3)=0 vatOf(2,3)=0");
    // BEATERS have theirs first, and what they leave is for VATS.
    edge("III", water, VAT, "kind(0,0,40,9)=1 heap(0,400)=1 load(2,1,9)=9 day(0,0,7)=60 hours(1)=0 beaterOf(2,2)=8 vatOf(0,2)=0 day(0,0,8)=7",
        "hours(1)=0 beaterOf(2,2)=7 vatOf(0,2)=20 day(0,0,5)=8 hours(1)=0 beaterOf(2,2)=7 vatOf(0,2)=40 day(0,0,13)=5 load(3,1,9)=9",
        "hours(1)=0 beaterOf(2,2)=6 beaterOf(3,2)=8 vatOf(0,2)=40 day(0,0,14)=13 hours(1)=1 beaterOf(3,2)=7 vatOf(0,2)=0");
    // A VAT without PULP leaves its WATER to the next.
    edge("III", "and PULP of the KIND is enough for one sheet, W is 2 less", PULP, "pair(1)=0 pair(1)=1 vat(0,0)=1 vat(1,1)=1 furnish(0,1)=0",
        "day(0,0,2)=60 hours(1)=0 vatOf(0,2)=0 vatOf(0,3)=1 vatOf(1,2)=20 furnish(0,0)=1 hours(1)=0 vatOf(0,2)=20 vatOf(1,2)=20 vatOf(1,3)=1");
  }

  private static void pulpForVats() {
    String enough = "PULP of the KIND is enough for one sheet";
    edge("III", enough, HEAP, "pair(2)=0 vat(0,0)=1 load(0,0,3)=1 hours(1)=0 vatOf(0,2)=20 count(30)=2 hours(1)=0 vatOf(0,2)=21 count(30)=0",
        "vatOf(0,3)=0 hours(1)=0 vatOf(0,2)=21 vatOf(0,3)=1");
    edge("III", enough, HEAP, "pair(3)=0 vat(0,0)=1 load(0,0,1)=1 hours(1)=0 vatOf(0,2)=4 count(30)=2 vatOf(0,3)=0 hours(1)=0 vatOf(0,2)=4",
        "count(30)=2 vatOf(0,3)=1");
    // The first VAT takes what there is; what it leaves is one ounce too little for the second, and enough for the third.
    edge("III", enough, HEAP, "pair(3)=0 pair(3)=1 pair(2)=2 vat(0,0)=1 vat(1,1)=1 vat(2,2)=1 load(0,0,1)=1 hours(1)=0 vatOf(0,2)=4 vatOf(1,2)=0",
        "vatOf(1,3)=1 vatOf(2,2)=1 vatOf(2,3)=0 count(30)=0");

    String twenty = "it makes up to 20 sheets, as many as there is PULP for, each taking WEIGHT";
    edge("III", twenty, HEAP, "pair(5)=0 vat(0,0)=1 load(0,0,7)=1 hours(1)=0 vatOf(0,2)=19 count(30)=3 count(7)=19");
    edge("III", twenty, HEAP, "pair(7)=0 vat(0,0)=1 load(0,0,10)=1 hours(1)=0 vatOf(0,2)=20 count(30)=0 count(7)=20");
    edge("III", twenty, HEAP, "pair(2)=0 vat(0,0)=1 load(0,0,3)=1 hours(1)=0 vatOf(0,2)=20 count(30)=2 count(7)=20 hours(1)=0 count(7)=21");
    edge("III", "With 60 a POST is done: it gets the next number, and is WET", VAT, "loft(0)=10 hours(2)=0 vatOf(0,2)=40 count(3)=0 hours(1)=1",
        "vatOf(0,2)=0 count(3)=1 postOf(0,0)=0 postOf(0,3)=4 postOf(1,0)=-1 pair(1)=1 vat(1,1)=1 hours(3)=2 postOf(1,1)=0 postOf(2,1)=1",
        "postOf(2,0)=0 postOf(2,3)=7 postOf(3,0)=-1");
  }

  private static void eightyPosts() {
    String eighty = "(Once 80 are done VATS make no sheets, and take no WATER.)";
    edge("III", eighty, VAT, "hours(237)=79 count(3)=79 hours(2)=0 vatOf(0,2)=40 hours(1)=1 count(3)=80 postOf(79,3)=241 count(7)=4800 vatOf(0,2)=0",
        "vatOf(0,3)=0 hours(1)=0 count(3)=80 count(7)=4800 count(30)=800 vatOf(0,2)=0 vatOf(0,3)=1 postOf(80,0)=-1 hours(99)=0 count(7)=4800");
    // The second VAT's POST is the 80th; so the third makes none in that HOUR.
    edge("III", eighty, PULP, "pair(1)=0 pair(1)=1 pair(1)=2 vat(0,0)=1 vat(1,1)=1 vat(2,2)=1 hours(78)=78 hours(2)=0 vatOf(2,2)=40 hours(1)=2",
        "count(3)=80 vatOf(0,2)=0 vatOf(1,2)=0 vatOf(2,2)=40 vatOf(2,3)=1 count(7)=4840 count(30)=760 hours(9)=0 vatOf(2,2)=40 count(7)=4840",
        "vat(2,-1)=-3 wire(4,0,1)=-3 vat(1,-1)=1");
    // The 80th is done in the midst of an HOUR; so no more of it is used.
    edge("III", eighty, HEAP, "day(0,0,60)=20 pair(1)=0 vat(0,0)=1 load(0,0,1)=1 hours(1)=0 vatOf(0,2)=14 load(0,0,100)=1 load(1,0,100)=1",
        "load(2,0,100)=1 load(3,0,99)=1 hours(239)=79 count(7)=4794 vatOf(0,2)=54 hours(1)=1 count(7)=4800 vatOf(0,2)=0 mouldOf(0,6)=2400",
        "mouldOf(1,6)=2400 count(30)=800");
  }

  private static void roomInTheLoft() {
    String room = "come into THE LOFT if it has ROOM (0 .. 40; 10 at first; how many hang there), others WAIT on";
    edge("III", room, VAT, "day(0,1,0)=4 hours(27)=9 count(9)=9 hours(3)=1 count(9)=10 postOf(9,0)=1 hours(3)=1 count(9)=10 postOf(10,0)=0",
        "postOf(10,4)=-9");
    edge("III", room, VAT, "loft(0)=10 hours(3)=1 count(9)=0 postOf(0,0)=0 hours(20)=6 count(9)=0 postOf(0,0)=0 loft(1)=0 hours(1)=1 count(9)=1",
        "postOf(0,0)=1 postOf(0,4)=25");
    edge("III", room, VAT, "loft(40)=10 day(0,1,0)=4 hours(117)=39 count(9)=39 hours(3)=1 count(9)=40 hours(3)=1 count(9)=40 postOf(39,0)=1",
        "postOf(40,0)=0");
    edge("III", room, VAT, "day(0,1,0)=4 hours(9)=3 count(9)=3 loft(2)=10 hours(3)=1 count(9)=3 postOf(2,0)=1 postOf(3,0)=0 loft(3)=2 hours(1)=0",
        "count(9)=3 postOf(3,0)=0 loft(4)=3 hours(1)=0 count(9)=4 postOf(3,4)=15");
    edge("III", "3 POSTS that are WET, by numbers", VAT, "loft(0)=10 day(0,1,0)=4 hours(9)=3 loft(2)=0 hours(1)=0 postOf(0,0)=1 postOf(1,0)=1",
        "postOf(2,0)=0 postOf(2,4)=-9 count(9)=2");
  }

  private static void drying() {
    String forty = "DRYNESS is more by DRY; with 40 or more they are DRIED, and hang there no more";
    edge("III", forty, VAT, "hours(3)=1 furnish(0,1)=0 hours(8)=0 postOf(0,5)=36 postOf(0,0)=1 postOf(0,6)=-9 count(9)=1 hours(1)=0",
        "postOf(0,5)=40 postOf(0,0)=2 postOf(0,6)=13 count(9)=0 hours(1)=0 postOf(0,5)=40");
    edge("III", forty, VAT, "day(0,1,3)=4 hours(3)=1 furnish(0,1)=0 hours(12)=0 postOf(0,5)=39 postOf(0,0)=1 day(0,1,0)=3 hours(1)=0 postOf(0,5)=39",
        "postOf(0,0)=1 day(0,1,1)=0 hours(1)=0 postOf(0,5)=40 postOf(0,0)=2 postOf(0,6)=18");
    edge("III", forty, VAT, "day(0,1,9)=4 hours(3)=1 furnish(0,1)=0 hours(3)=0 postOf(0,5)=36 postOf(0,0)=1 hours(1)=0 postOf(0,5)=45 postOf(0,0)=2",
        "hours(1)=0 postOf(0,5)=45");
    edge("III", forty, VAT, "day(0,1,0)=4 hours(3)=1 furnish(0,1)=0 hours(2396)=0 postOf(0,5)=0 postOf(0,0)=1 count(9)=1");
    edge("III", "(Those that came in now, too.)", VAT, "day(0,1,9)=4 hours(2)=0 hours(1)=1 postOf(0,4)=4 postOf(0,5)=9");
    // What is DRIED in an HOUR leaves its place for the next one.
    edge("III", forty, VAT, "loft(1)=10 hours(11)=3 postOf(0,0)=1 postOf(1,0)=0 hours(1)=1 postOf(0,0)=2 postOf(1,0)=0 count(9)=0 hours(1)=0",
        "postOf(1,0)=1 postOf(1,4)=14 count(9)=1");
  }

  private static void sizing() {
    edge("III", "it takes a HIDE (0 .. 1000; 0 at first)", VAT, "count(6)=0 hours(15)=5 postOf(1,0)=2 size(0)=-3 sizeAll()=0 hides(1)=1 size(0)=58",
        "count(6)=0 size(1)=-3 hides(1000)=1000 hides(1)=-6 size(1)=58 count(6)=999 hides(2)=-6 hides(1)=1000");

    String good = "GOOD sheets are 60 less 2 and less 1 for each whole 24 HOURS that it WAITED in the wet (not below 0)";
    sizedAs(good, 4 + 23, 58);
    sizedAs(good, 4 + 24, 57);
    sizedAs(good, 4 + 47, 57);
    sizedAs(good, 4 + 48, 56);
    sizedAs(good, 4 + 57 * 24, 1);
    sizedAs(good, 4 + 58 * 24 - 1, 1);
    sizedAs(good, 4 + 58 * 24, 0);
    sizedAs(good, 4 + 59 * 24, 0);
    sizedAs(good, 4 + 98 * 24, 0);
    edge("III", good, VAT, "hours(12)=4 hides(1)=1 postOf(0,3)=4 postOf(0,4)=4 size(0)=58");
    edge("III", "they come to the SHEETS of its KIND and WEIGHT; the POST is SIZED", PULP, "pair(8)=0 vat(0,0)=1 hours(12)=4 hides(2)=2 size(0)=58",
        "sheets(0,8)=58 sheets(0,7)=0 sheets(0,1)=0", Runs.times(8, "sheets(#,1)=0 sheets(#,7)=0"), "sheets(1,8)=0 sheets(8,1)=0 sheets(8,8)=0",
        "postOf(0,0)=3 hours(3)=1 size(1)=58 sheets(0,8)=116 size(0)=-3");

    // 59 sheets of KIND 0 and the last one of KIND 1; and 58 with two.
    String last = "KIND: of the PULP of its last sheet; it may change while a POST is made";
    edge("III", last, HEAP, "pair(4)=0 vat(0,0)=1 kind(1,0,40,1)=1 rags(1,9)=9 heap(1,9)=1 load(0,0,17)=1 hours(3)=0 vatOf(0,2)=59 furnish(0,1)=0",
        "load(0,1,1)=1 hours(1)=1 postOf(0,2)=1 vatOf(0,2)=2 furnish(0,0)=1 postOf(0,2)=1 hours(9)=0 hides(1)=1 size(0)=58 sheets(1,4)=58",
        "sheets(0,4)=0");
    edge("III", last, VAT, "furnish(0,1)=0 hours(1)=0 furnish(0,0)=1 hours(3)=1 furnish(0,1)=0 postOf(0,2)=0 hours(9)=0 hides(1)=1 size(0)=58",
        "sheets(0,1)=58 sheets(1,1)=0");
  }

  private static void kindsOfVats() {
    String last = "KIND: of the PULP of its last sheet";
    edge("III", last, PULP, "kind(1,0,40,1)=1 kind(2,0,40,1)=1 rags(1,9)=9 rags(2,9)=9 heap(1,9)=1 heap(2,9)=2 load(0,1,9)=1 load(1,2,9)=1",
        "pair(1)=0 pair(1)=1 pair(1)=2",
        "vat(0,0)=1 vat(1,1)=1 vat(2,2)=1 furnish(1,1)=0 furnish(2,2)=0 hours(3)=3 postOf(0,2)=0 postOf(1,2)=1 postOf(2,2)=2 count(30)=5540",
        "count(31)=66 count(32)=66");
  }

  /** The POST of WAITS comes into THE LOFT at that HOUR. */
  private static void sizedAs(String sentence, int hung, int good) {
    String run = "hours(H)=0 loft(1)=0 hours(1)=0 postOf(0,4)=I hours(9)=0 postOf(0,0)=2 hides(1)=1 size(0)=G postOf(0,7)=G postOf(0,0)=3"
        + " sheets(0,1)=G count(6)=0";
    edge("III", sentence, WAITS, run.replace("H", String.valueOf(hung - 5)).replace("I", String.valueOf(hung)).replace("G", String.valueOf(good)));
  }

  private static void orders() {
    edge("IV", "ORDERS have numbers from 0 on (12 at most)", "orderOf(0,0)=-1", Runs.times(11, "order(0,1,1,5,9)=#"), "orderOf(11,0)=-1",
        "order(0,1,1,5,9)=11 orderOf(11,0)=0 order(0,1,1,5,9)=-6 count(4)=12 orderOf(12,0)=-1");
    edge("IV", "ORDERS have numbers from 0 on (12 at most)", SHEETS, Runs.times(12, "order(0,1,1,5,9)=#"), "fill(0)=9 fill(11)=9 order(0,1,1,5,9)=-6",
        "count(4)=12");

    String reams = "REAMS (1 .. 20; 480 sheets each)";
    edge("IV", reams, "order(0,1,0,5,9)=-4 order(0,1,1,5,9)=0 order(0,1,20,5,9)=1 order(0,1,21,5,9)=-6 count(4)=2 orderOf(0,2)=1 orderOf(1,2)=20");
    edge("IV", reams, hangAt(27, 9, 139), "sizeAll()=9 sheets(0,1)=480 order(0,1,1,100,9)=0 fill(0)=9 sheets(0,1)=0");
    edge("IV", reams, hangAt(27, 9, 142), "sizeAll()=9 sheets(0,1)=479 order(0,1,1,100,9)=0 fill(0)=1000000003 sheets(0,1)=479");
    String two = VAT + "loft(0)=10 hours(51)=17 furnish(0,1)=0 hours(22)=0 loft(15)=0 hours(1)=0 postOf(14,4)=75 postOf(15,4)=-9 loft(0)=15 ";
    edge("IV", reams, two, "hours(21)=0 loft(2)=0 hours(1)=0 postOf(16,4)=97 hours(9)=0 hides(20)=20 sizeAll()=17 sheets(0,1)=960",
        "order(0,1,2,100,9)=0",
        "fill(0)=18 sheets(0,1)=0");
    edge("IV", reams, two, "hours(24)=0 loft(2)=0 hours(1)=0 postOf(16,4)=100 hours(9)=0 hides(20)=20 sizeAll()=17 sheets(0,1)=959",
        "order(0,1,2,100,9)=0",
        "fill(0)=1000000003 order(0,1,1,100,9)=1 fill(1)=9 sheets(0,1)=479");
    edge("IV", "a DUE DAY", "order(0,1,1,-1,9)=-4 order(0,1,1,0,9)=0 order(0,1,1,100,9)=1 order(0,1,1,101,9)=-6 orderOf(0,3)=0 orderOf(1,3)=100");
    edge("IV", "a PRICE (0 .. 999 a REAM)", "order(0,1,1,5,-1)=-4 order(0,1,1,5,0)=0 order(0,1,1,5,999)=1 order(0,1,1,5,1000)=-6 orderOf(0,4)=0",
        "orderOf(1,4)=999");

    String coins = "COINS are more by PRICE a REAM, less the DUTY (0 .. 99 for each WEIGHT; 0 at first) a REAM";
    edge("IV", coins, SHEETS, "order(0,1,1,3,0)=0 order(0,1,1,3,999)=1 fill(0)=0 count(5)=1000000000 fill(1)=999 count(5)=1000000999");
    edge("IV", coins, SHEETS, "order(0,1,2,3,999)=0 duty(1,99)=0 duty(2,5)=0 fill(0)=1800 count(5)=1000001800");
    edge("IV", coins, SHEETS, "order(0,1,1,3,0)=0 order(0,1,1,3,99)=1 duty(1,99)=0 fill(0)=-99 count(5)=999999901 fill(1)=0 count(5)=999999901");
    edge("IV", coins, Runs.times(8, "duty(#,0)=0").replace("duty(0,0)=0 ", ""), "duty(8,0)=0 duty(8,99)=0 duty(8,100)=-6 duty(8,-1)=-4 duty(8,0)=99");

    String late = "on a DAY behind DUE by half of that PRICE (cut) less the DUTY";
    edge("IV", late, SHEETS, "order(0,1,1,3,7)=0 order(0,1,1,3,7)=1 hours(23)=0 fill(0)=7 hours(1)=0 fill(1)=3 count(5)=1000000010");
    edge("IV", late, SHEETS, "order(0,1,1,2,999)=0 order(0,1,1,0,1)=1 fill(0)=499 duty(1,99)=0 fill(1)=-99 count(5)=1000000400");
    edge("IV", late, SHEETS, "order(0,1,2,2,31)=0 duty(1,20)=0 fill(0)=-10 count(5)=999999990");
    edge("IV", late, SHEETS, "order(0,1,2,2,8)=0 fill(0)=8");
  }

  /** POSTS of VAT that all come into THE LOFT at an HOUR, DRIED, with HIDES for all. */
  private static String hangAt(int hours, int posts, int hung) {
    return VAT + "loft(0)=10 hours(" + hours + ")=" + posts + " furnish(0,1)=0 hours(" + (hung - 2 - hours) + ")=0 loft(40)=0 hours(1)=0"
        + " postOf(0,4)=" + hung + " hours(9)=0 hides(20)=20 ";
  }

  private static void best() {
    edge("IV", "BEST with so many sheets a DAY (1 .. 9600)", "order(0,1,1,100,9)=0 best(0)=-4 best(1)=0 best(4)=0 best(5)=1 best(9600)=1",
        "best(9601)=-6",
        "bestWorth(0)=-4 bestWorth(1)=0 bestWorth(9600)=9 bestWorth(9601)=-6");
    edge("IV", "BEST with so many sheets a DAY (1 .. 9600)", "order(0,1,20,1,9)=0 best(9599)=0 best(9600)=1 bestWorth(9600)=180");

    String open = "of the ORDERS that are open (8 at most)";
    edge("IV", open, Runs.times(8, "order(0,1,1,100,1)=#"), "best(480)=255 bestWorth(480)=8 order(0,1,1,100,1)=8 best(480)=-3 bestWorth(480)=-3");
    edge("IV", open, SHEETS, Runs.times(9, "order(0,1,1,100,1)=#"), "best(480)=-3 fill(4)=1 best(480)=495 order(0,1,1,100,1)=9 best(480)=-3",
        "bestWorth(480)=-3 fill(9)=1 best(480)=495 bestWorth(480)=8");
    edge("IV", open, SHEETS, "order(0,1,1,100,1)=0 fill(0)=1 best(480)=0 bestWorth(480)=0");
    edge("IV", "as if SHEETS were none and all made alike", SHEETS, "order(0,1,1,3,9)=0 best(9600)=0 fill(0)=9");
    edge("IV", "as if SHEETS were none and all made alike", "order(0,1,1,1,9)=0 order(8,8,1,1,9)=1 best(960)=3 best(959)=1");

    String next = "from the beginning of the next DAY on";
    edge("IV", next, "order(0,1,1,0,9)=0 best(9600)=0 order(0,1,1,1,9)=1 best(480)=2 hours(23)=0 best(480)=2 best(479)=0 hours(1)=0 best(480)=0");
    edge("IV", next, "order(0,1,1,100,9)=0 hours(2399)=0 best(480)=1 best(479)=0 hours(1)=0 best(9600)=0 bestWorth(9600)=0");

    String taking = "each taking REAMS times 480 by that many sheets (as fractions of DAYS, one behind the other)";
    edge("IV", taking, "order(0,1,1,2,9)=0 order(0,1,1,3,9)=1 order(0,1,1,5,9)=2 best(320)=7 best(319)=5 bestWorth(319)=18");
    edge("IV", taking, "order(0,1,1,1,9)=0 order(0,1,1,1,9)=1 best(960)=3 best(959)=1 best(480)=1 best(479)=0");
    edge("IV", taking, "order(0,1,3,7,9)=0 best(206)=1 best(205)=0");
    // Those that are due first come first, whatever their numbers are.
    edge("IV", taking, "order(0,1,2,3,9)=0 order(0,1,1,1,9)=1 best(480)=3 best(479)=1");
    edge("IV", taking, "order(0,1,1,1,9)=0 order(0,1,1,3,9)=1 order(0,1,1,2,9)=2 best(480)=7 bestWorth(480)=27");
    edge("IV", taking, "order(0,1,1,5,9)=0 order(0,1,1,4,9)=1 order(0,1,1,3,9)=2 order(0,1,1,2,9)=3 order(0,1,1,1,9)=4 best(480)=31",
        "bestWorth(480)=45 best(479)=15");
    edge("IV", taking, "order(0,1,1,2,9)=0 order(0,1,1,5,9)=1 order(0,1,1,1,9)=2 order(0,1,1,4,9)=3 order(0,1,1,3,9)=4 best(480)=31 best(479)=27");

    String due = "each done by the end of its DUE";
    edge("IV", due, "order(0,1,1,1,9)=0 best(480)=1 best(479)=0");
    edge("IV", due, "order(0,1,20,20,9)=0 best(480)=1 best(479)=0 hours(24)=0 best(505)=0 best(506)=1");

    String sum = "those with the greatest sum of PRICE times REAMS, of these the fewest, of these the set of the least bits (bit i: ORDER i)";
    edge("IV", sum, "best(9600)=0 bestWorth(9600)=0 order(0,1,1,5,0)=0 best(9600)=0 order(0,1,1,5,1)=1 best(9600)=2 bestWorth(9600)=1");
    edge("IV", sum, "order(0,1,2,2,10)=0 order(0,1,1,2,21)=1 best(480)=2 bestWorth(480)=21 order(0,1,1,2,0)=2 best(480)=2 best(720)=3");
    edge("IV", sum, "order(0,1,1,2,10)=0 order(0,1,1,2,10)=1 order(0,1,2,2,10)=2 best(480)=4 bestWorth(480)=20");
    edge("IV", sum, "order(0,1,1,1,10)=0 order(0,1,1,1,10)=1 best(480)=1 order(0,1,1,2,10)=2 best(480)=5");
    // ORDERS 0 and 3 come to 20 as 1 and 2 do: 9 and 6.
    edge("IV", sum, "order(0,1,1,4,8)=0 order(0,1,2,4,5)=1 order(0,1,2,4,5)=2 order(0,1,3,4,4)=3 best(480)=6 bestWorth(480)=20");
    // One of two alike in worth; the first one is due later. And one against two, due ahead of them.
    edge("IV", sum, "order(0,1,2,2,5)=0 order(0,1,1,1,10)=1 best(480)=1 bestWorth(480)=10");
    edge("IV", sum, "order(0,1,2,4,3)=0 order(0,1,2,4,3)=1 order(0,1,3,3,4)=2 best(480)=4 bestWorth(480)=12");
    // Bit 11 is the last one.
    edge("IV", sum, VAT, "loft(40)=10 hours(250)=80 hides(80)=80 sizeAll()=80", Runs.times(12, "order(0,1,1,11,1)=#"), "best(9600)=-3 fill(0)=1",
        "fill(5)=1 fill(7)=1",
        "best(9600)=-3 fill(8)=1 best(9600)=3678 bestWorth(9600)=8 best(480)=2 best(479)=0");
    edge("IV", sum, Runs.times(8, "order(0,1,20,100,999)=#"), "best(9600)=255 bestWorth(9600)=159840");
  }

  private static void foretelling() {
    String nothing = "FORETELLING n HOURS: as if they passed with nothing done; nothing changes";
    edge("IV", nothing, VAT, "hides(9)=9 foretell(24,0)=8 foretell(24,1)=5 foretell(240,2)=4800 count(0)=1 count(3)=0 count(7)=0 count(30)=5600",
        "vatOf(0,2)=0",
        "mouldOf(0,6)=0 mouldOf(0,1)=50 foretell(24,0)=8 when(1)=13 count(0)=1 hours(24)=8 postOf(4,0)=2 postOf(5,0)=1 count(6)=9");
    edge("IV", nothing, "kind(0,0,1,9)=1 rags(0,9)=9 heap(0,9)=0 load(0,0,2)=9 foretell(48,3)=7 foretell(8,4)=0 foretell(9,4)=28 count(8)=0",
        "heapOf(0,1)=7 beaterOf(0,2)=9 beaterOf(0,3)=0 count(30)=0");
  }

  private static void foretellingWhatIs() {
    String passed = "as if they passed with nothing done";
    edge("IV", passed, "kind(1,0,1,1)=1 rags(1,9)=9 hours(5)=0 heap(1,9)=0 foretell(47,3)=0 foretell(48,3)=9 hours(47)=0 foretell(1,3)=9",
        "heapOf(0,1)=9");
    edge("IV", passed, "kind(1,0,1,1)=1 rags(1,9)=9 heap(1,9)=0 hours(48)=0 count(8)=9 foretell(1,3)=9");
    edge("IV", passed, "kind(3,0,9,2)=1 rags(3,9)=9 heap(3,9)=0 load(0,0,9)=2 pair(1)=0 vat(0,0)=1 furnish(0,3)=0 foretell(1,2)=0 foretell(2,2)=20",
        "foretell(9,2)=126 foretell(9,0)=2 foretell(9,4)=0 count(33)=0");
    edge("IV", passed, VAT, "loft(0)=10 foretell(240,0)=80 foretell(240,1)=0 loft(1)=0 foretell(11,1)=0 foretell(12,1)=1 foretell(21,1)=1",
        "foretell(22,1)=2");
    // Nothing is SIZED and no order filled, but what is SIZED stays so.
    edge("IV", passed, VAT, "hides(9)=9 hours(12)=4 size(0)=58 foretell(12,1)=5 postOf(1,0)=1 count(6)=8 sheets(0,1)=58");
  }

  private static void oldSheets() {
    String marks = "OLD SHEETS: six marks, each 0 .. 99 or -1 (not to be read)";
    edge("V", marks, VAT, "hours(3)=1 oldA(0,0,0)=1 nearest(3)=150 oldB(99,99,99)=1 nearest(3)=297 oldA(-1,0,-1)=1 nearest(3)=197 oldB(-1,-1,99)=1",
        "nearest(3)=99 oldA(-2,0,0)=-4 oldA(100,0,0)=-6 oldB(0,-2,0)=-4 oldB(0,0,100)=-6 nearest(3)=99 oldA(-1,-1,-1)=1 oldB(-1,-1,-1)=1",
        "nearest(3)=0 lies(0)=60");

    String lies = "One that is asked for LIES by a sheet of a POST with T, if each mark that can be read differs by T at most";
    edge("V", lies, VAT, "hours(3)=1 oldA(53,-1,-1)=1 lies(2)=0 lies(3)=60 oldA(47,-1,-1)=1 lies(2)=0 lies(3)=60 oldA(53,54,46)=1 lies(3)=0",
        "lies(4)=60 oldA(50,50,50)=1 oldB(50,50,51)=1 lies(0)=0 lies(1)=60 oldB(50,50,-1)=1 lies(0)=60");
    edge("V", lies, VAT, Runs.times(6, "wire(0,#,0)=50 wire(1,#,0)=50"), "hours(3)=1 oldA(99,99,99)=1 lies(98)=0 lies(99)=60 oldB(99,99,99)=1",
        "lies(98)=0 lies(99)=60 nearest(3)=594");
    for (int w = 0; w < 6; w++) {
      String one = "oldA(A)=1 oldB(B)=1 lies(0)=30 lies(1)=60 nearest(1)=1";
      String[] row = {"-1", "-1", "-1", "-1", "-1", "-1"};
      row[w] = "51";
      String a = row[0] + "," + row[1] + "," + row[2];
      String b = row[3] + "," + row[4] + "," + row[5];
      edge("V", lies, VAT, "wire(1," + w + ",51)=50 hours(3)=1", one.replace("(A)", "(" + a + ")").replace("(B)", "(" + b + ")"));
    }
    edge("V", "a sheet of a POST", VAT, "hours(2)=0 lies(99)=0 nearest(0)=-9 span(0,99,true)=-9 hours(1)=1 lies(99)=60 hours(2)=0 lies(99)=60",
        "span(0,99,true)=4");
    edge("V", "NEARNESS: the sum of what they differ", VAT, "hours(3)=1 oldA(49,51,48)=1 nearest(3)=4 oldB(55,-1,40)=1 nearest(3)=19",
        "oldA(-1,-1,-1)=1",
        "oldB(-1,-1,-1)=1 nearest(3)=0");
  }

  private static void refusals() {
    String first = "the call answers the number, the first that fits in the order in which it tells them; nothing changes but how many there were";
    edge("V", first, "count(11)=0 count(12)=0 count(13)=0 count(14)=0 count(15)=0 count(16)=0 day(101,3,61)=-1 count(11)=1 day(100,3,61)=-2",
        "count(12)=1",
        "order(0,1,1,9,9)=0 fill(0)=1000000003 count(13)=1 kind(0,-1,41,1)=-4 count(14)=1 kind(0,0,41,1)=-6 count(16)=1 count(11)=1 count(12)=1",
        "count(13)=1 count(14)=1 count(15)=0 dayOf(100,0)=20 orderOf(0,5)=-9");
    edge("V", "-1 NOBODY: no such DAY, KIND, HEAP, BEATER, PAIR, MOULD, VAT, POST, ORDER, WEIGHT, WIRE, sheet", VAT, "hours(3)=1 order(0,1,1,9,9)=0",
        "dayOf(101,0)=-1 rags(9,1)=-1 heapOf(1,0)=-1 beaterOf(4,0)=-1 vat(1,1)=-1 mouldOf(2,0)=-1 vatOf(3,0)=-1 postOf(1,0)=-1 orderOf(1,0)=-1",
        "duty(9,0)=-1 mark(0,0,6)=-1 mark(0,60,0)=-1 count(11)=12");
    edge("V", "-2 OTHER: what", "dayOf(0,3)=-2 dayOf(0,-1)=-2 foretell(1,5)=-2 nearest(5)=-2 count(12)=4 count(40)=-9 count(12)=4");
    // What there is none of is -9, and no refusal.
    edge("V", "-3 STATE: it is not as it must be", "nearest(0)=-9 when(1)=-9 beaterOf(0,1)=-9 vatOf(0,0)=-9 count(10)=-9 pair(1)=0 span(0,0,true)=-9",
        "count(11)=0 count(12)=0 count(13)=0 count(14)=0 count(15)=0 count(16)=0");
    edge("V", "-4 BELOW: a number below the least. -6 ROOM: a number above the greatest, no room", "loft(-1)=-4 loft(41)=-6 loft(least)=-4",
        "loft(most)=-6",
        "count(14)=2 count(16)=2 loft(10)=10");
  }
}

/** Runs on new objects, by promises, with the answers that the document asks for (reckoned by hand). */
public final class PromisesTest {
  private static final String PULP = Runs.PULP;
  private static final String VAT = Runs.VAT;
  private static final String SHEETS = Runs.SHEETS;
  private static final Runs RUNS = new Runs();

  public static void main(String[] args) {
    rows();
    ragsAndHeaps();
    beaters();
    moulds();
    vats();
    loftAndSizing();
    orders();
    best();
    hours();
    foretelling();
    oldSheets();
    looks();
    RUNS.end();
  }

  private static void run(int promise, String... calls) {
    RUNS.say("promise " + promise, Runs.read(calls));
  }

  private static void rows() {
    run(1, "count(0)=0 count(1)=0 count(2)=0 count(3)=0 count(4)=0 count(5)=1000000000 count(6)=0 count(7)=0",
        "count(8)=0 count(9)=0 count(11)=0 count(12)=0 count(13)=0 count(14)=0 count(15)=0 count(16)=0",
        "count(20)=0 count(28)=0 count(30)=0 count(38)=0 sheets(0,1)=0 sheets(8,8)=0",
        "dayOf(0,0)=20 dayOf(100,0)=20 dayOf(0,1)=4 dayOf(100,1)=4 dayOf(0,2)=0 dayOf(100,2)=0",
        "beaterOf(0,0)=0 beaterOf(3,1)=-9 beaterOf(1,2)=0 beaterOf(2,3)=0",
        "vatOf(0,0)=-9 vatOf(1,1)=0 vatOf(2,2)=0 vatOf(0,3)=0",
        "lies(0)=0 nearest(0)=-9 best(1)=0 bestWorth(1)=0 when(0)=0 when(1)=-9 sizeAll()=0",
        "loft(10)=10 duty(1,0)=0 duty(8,0)=0 furnish(0,0)=0");
    run(1, "rags(8,10)=10 heap(8,10)=0 hours(119)=0 heapOf(0,3)=0 load(0,0,1)=-3 hours(1)=0 heapOf(0,3)=1",
        "load(0,0,1)=8 hours(263)=0 heapOf(0,1)=9 hours(1)=0 heapOf(0,1)=0 heapOf(0,4)=9");

    run(2, "day(0,0,0)=20 day(0,0,60)=0 dayOf(50,0)=60 day(0,0,-1)=60 dayOf(0,0)=20",
        "day(100,1,9)=4 day(100,1,0)=9 day(100,1,-1)=0 dayOf(100,1)=4",
        "day(3,2,1)=0 day(3,2,1)=1 dayOf(2,2)=0 dayOf(4,2)=0 day(3,2,0)=1 dayOf(3,2)=0");
    run(2, "day(10,0,40)=20 day(20,0,9)=40 day(15,0,-1)=24 dayOf(15,0)=24 day(15,0,3)=24 dayOf(12,0)=21 dayOf(18,0)=6",
        "day(15,0,-1)=3 dayOf(12,0)=24");
    run(2, "day(-1,3,-5)=-1 day(101,0,0)=-1 day(least,0,0)=-1 day(most,0,0)=-1 day(0,-1,-5)=-2 day(0,3,99)=-2",
        "day(0,0,-2)=-4 day(0,1,-2)=-4 day(0,2,-1)=-4 day(0,0,least)=-4 day(0,0,61)=-6 day(0,1,10)=-6 day(0,2,2)=-6",
        "day(0,0,most)=-6 dayOf(0,0)=20 dayOf(0,1)=4 dayOf(0,2)=0 count(11)=4 count(12)=2 count(14)=4 count(16)=4");

    run(3, "day(10,0,40)=20 day(20,0,9)=40 day(30,0,0)=9 dayOf(0,0)=40 dayOf(9,0)=40 dayOf(10,0)=40 dayOf(11,0)=24",
        "dayOf(19,0)=24 dayOf(20,0)=9 dayOf(21,0)=4 dayOf(30,0)=0 dayOf(100,0)=0 dayOf(10,1)=4 dayOf(10,2)=0");
    run(3, "day(4,1,9)=4 day(4,2,1)=0 dayOf(4,1)=9 dayOf(3,1)=9 dayOf(5,1)=9 dayOf(4,2)=1");
    run(3, "dayOf(-1,3)=-1 dayOf(101,0)=-1 dayOf(most,0)=-1 dayOf(0,-1)=-2 dayOf(0,3)=-2 count(11)=3 count(12)=2");
  }

  private static void ragsAndHeaps() {
    run(4, "kind(0,0,1,1)=1 kind(8,20,40,30)=1 rags(8,9)=9 heap(8,9)=0 hours(479)=0 load(0,0,9)=-3 hours(1)=0",
        "load(0,0,1)=30 hours(983)=0 heapOf(0,4)=0 hours(1)=0 heapOf(0,4)=8");
    run(4, "rags(0,9)=9 heap(0,9)=0 load(0,0,1)=-3 kind(0,0,1,7)=1 load(0,0,1)=7 kind(0,0,1,2)=1 beaterOf(0,2)=7");
    run(4, "kind(-1,-1,0,0)=-1 kind(9,0,1,1)=-1 kind(0,-1,1,1)=-4 kind(0,0,0,1)=-4 kind(0,0,1,0)=-4 kind(0,21,41,0)=-4",
        "kind(0,21,1,1)=-6 kind(0,0,41,1)=-6 kind(0,0,1,31)=-6 kind(0,most,most,most)=-6 kind(0,least,1,1)=-4",
        "rags(0,9)=9 heap(0,9)=0 load(0,0,1)=-3 hours(120)=0 load(0,0,1)=8 count(11)=2 count(14)=5 count(16)=4");

    run(5, "rags(0,1)=1 rags(0,19999)=20000 rags(0,1)=-6 rags(1,20000)=20000 rags(8,7)=7 count(20)=20000 count(28)=7",
        "heap(0,400)=0 rags(0,401)=-6 rags(0,400)=20000");
    run(5, "rags(-1,0)=-1 rags(9,5)=-1 rags(0,0)=-4 rags(0,-5)=-4 rags(0,least)=-4 rags(0,20001)=-6 rags(0,most)=-6",
        "rags(0,1)=1 rags(0,most)=-6 count(20)=1 count(11)=2 count(14)=3 count(16)=3");

    run(6, "rags(3,500)=500 heap(3,400)=0 heap(3,100)=1 heap(3,1)=-6 count(23)=0 count(1)=2 heapOf(0,0)=3 heapOf(1,1)=100");
    run(6, "rags(3,500)=500 heap(3,401)=-6 heap(3,0)=-4 heap(3,-1)=-4 heap(-1,0)=-1 heap(9,1)=-1 heap(4,1)=-6",
        "heap(3,most)=-6 heap(3,least)=-4 count(1)=0 count(23)=500 count(11)=2 count(14)=3 count(16)=3");
    StringBuilder forty = new StringBuilder("rags(0,100)=100 ");
    for (int i = 0; i < 40; i++) forty.append("heap(0,1)=").append(i).append(' ');
    run(6, forty.toString(), "heap(0,1)=-6 heap(0,0)=-4 count(20)=60 count(1)=40 heapOf(39,1)=1 heapOf(40,1)=-1");

    run(31, "kind(2,1,3,1)=1 rags(2,500)=500 hours(5)=0 heap(2,90)=0 heap(2,10)=1 heapOf(0,0)=2 heapOf(0,1)=90",
        "heapOf(0,2)=0 heapOf(0,3)=0 heapOf(0,4)=0 hours(23)=0 heapOf(0,2)=0 heapOf(0,3)=0 hours(1)=0 heapOf(0,2)=1",
        "heapOf(0,3)=1 load(0,0,30)=1 heapOf(0,1)=60 load(1,1,10)=1 heapOf(1,1)=0 heapOf(1,3)=0 heapOf(1,2)=1",
        "load(2,1,1)=-3 hours(95)=0 heapOf(0,2)=4 heapOf(0,1)=60 heapOf(0,3)=1 hours(1)=0 heapOf(0,2)=5 heapOf(0,1)=0",
        "heapOf(0,3)=0 heapOf(0,4)=60 heapOf(1,4)=0 count(8)=60",
        "heapOf(2,9)=-1 heapOf(-1,0)=-1 heapOf(0,-1)=-2 heapOf(0,5)=-2 count(11)=2 count(12)=2");
  }

  private static void beaters() {
    run(7, "kind(0,0,5,3)=1 rags(0,500)=500 heap(0,250)=0 load(0,0,100)=3 load(3,0,100)=3 heapOf(0,1)=50",
        "load(1,0,51)=-6 load(1,0,50)=3 heapOf(0,1)=0 beaterOf(0,0)=100 beaterOf(1,0)=50 beaterOf(1,1)=0 beaterOf(3,2)=3");
    run(7, "kind(0,1,5,3)=1 rags(0,500)=500 heap(0,250)=0 load(-1,0,0)=-1 load(4,0,1)=-1 load(0,-1,1)=-1 load(0,1,1)=-1",
        "load(0,0,0)=-3 hours(23)=0 load(0,0,1)=-3 hours(1)=0 load(0,0,0)=-4 load(0,0,-1)=-4 load(0,0,101)=-6",
        "load(0,0,most)=-6 load(0,0,least)=-4 load(0,0,1)=3 load(0,0,0)=-3 heapOf(0,1)=249 count(11)=4 count(13)=3");

    run(31, "kind(0,0,1,1)=1 rags(0,1)=1 heap(0,1)=0 heapOf(0,3)=1 hours(48)=0 heapOf(0,4)=1 heapOf(0,1)=0 count(8)=1 hours(24)=0",
        "heapOf(0,4)=1 count(8)=1");

    run(32, "kind(0,0,5,2)=1 kind(7,0,5,1)=1 rags(0,50)=50 rags(7,50)=50 heap(0,50)=0 heap(7,50)=1 load(0,0,30)=2",
        "load(2,1,40)=1 beaterOf(0,0)=30 beaterOf(0,1)=0 beaterOf(0,2)=2 beaterOf(0,3)=0 beaterOf(2,1)=7 hours(1)=0",
        "beaterOf(0,2)=1 beaterOf(2,0)=0 beaterOf(2,1)=-9 beaterOf(2,2)=0 beaterOf(2,3)=1 count(37)=560 hours(1)=0",
        "beaterOf(0,3)=1 count(30)=420 load(0,0,1)=2 hours(2)=0 beaterOf(0,3)=2 beaterOf(0,0)=0",
        "beaterOf(-1,9)=-1 beaterOf(4,0)=-1 beaterOf(0,-1)=-2 beaterOf(0,4)=-2 count(11)=2 count(12)=2");
  }

  private static void moulds() {
    run(8, "pair(1)=0 pair(8)=1 pair(4)=2 pair(0)=-1 pair(9)=-1 pair(4)=3 pair(4)=-6 pair(9)=-1 count(2)=4",
        "mouldOf(7,0)=50 mouldOf(0,5)=50 mouldOf(7,6)=0 pair(least)=-1 pair(most)=-1 count(11)=5 count(16)=1");

    run(9, "pair(1)=0 wire(0,0,0)=50 wire(0,0,99)=0 wire(1,5,7)=50 mouldOf(0,0)=99 mouldOf(1,5)=7 mouldOf(1,0)=50",
        "wire(2,0,-1)=-1 wire(-1,0,0)=-1 wire(0,-1,0)=-1 wire(0,6,0)=-1 wire(0,0,-1)=-4 wire(0,0,100)=-6",
        "wire(0,0,least)=-4 wire(0,0,most)=-6 mouldOf(0,0)=99 count(11)=4 count(14)=2 count(16)=2");
    run(9, "kind(0,0,9,1)=1 rags(0,9)=9 heap(0,9)=0 pair(8)=0 load(0,0,1)=1 vat(2,0)=1 hours(1)=0 vatOf(2,2)=1 wire(0,0,5)=-3",
        "wire(1,0,5)=-3 vat(2,-1)=-3 vat(2,0)=-3 count(13)=4");
    run(9, VAT, "pair(1)=1 hours(1)=0 wire(0,0,-1)=-3 wire(1,0,100)=-3 wire(2,0,5)=50 wire(0,6,5)=-1 hours(2)=1 wire(0,0,5)=50",
        "hours(1)=0 wire(0,0,5)=-3 count(13)=3");

    run(10, "pair(1)=0 wire(1,3,8)=50 mouldOf(1,3)=8 mouldOf(1,2)=50 mouldOf(1,6)=0 mouldOf(2,9)=-1 mouldOf(-1,0)=-1",
        "mouldOf(0,-1)=-2 mouldOf(0,7)=-2 mouldOf(most,0)=-1 mouldOf(0,least)=-2 count(11)=3 count(12)=3");
    run(10, VAT, "wire(0,1,99)=50 wire(1,0,0)=50 hours(7)=2 mouldOf(0,6)=70 mouldOf(1,6)=70 mouldOf(0,1)=99 mouldOf(1,2)=51",
        "mouldOf(0,2)=50 hours(22)=7 mouldOf(0,6)=290 mouldOf(0,0)=50 mouldOf(0,2)=51 mouldOf(0,5)=51 mouldOf(1,0)=1",
        "hours(1)=1 mouldOf(0,6)=300 mouldOf(0,0)=49 mouldOf(1,1)=49 mouldOf(1,6)=300",
        "hours(30)=10 mouldOf(0,6)=600 mouldOf(0,0)=50 mouldOf(0,1)=98 mouldOf(0,5)=50 mouldOf(1,0)=0");
    run(10, VAT, "wire(0,0,0)=50 hours(30)=10 mouldOf(0,0)=0 hours(30)=10 mouldOf(0,0)=1");
  }

  private static void vats() {
    run(11, VAT, "pair(2)=1 vat(0,0)=1 vat(1,0)=-3 vat(1,1)=1 vat(1,-1)=1 vat(2,1)=1 vatOf(1,0)=-9 vatOf(2,0)=1 vat(2,-1)=1",
        "vat(2,-1)=1 hours(1)=0 vat(0,1)=-3 vat(0,0)=-3 vat(0,-1)=-3 vatOf(0,0)=0 hours(2)=1 vat(0,1)=1 vat(1,0)=1");
    run(11, "pair(2)=0 vat(-1,0)=-1 vat(3,-1)=-1 vat(0,-2)=-1 vat(0,1)=-1 vat(0,most)=-1 vat(0,least)=-1 vat(0,0)=1",
        "vat(2,0)=-3 vat(2,1)=-1 vatOf(0,0)=0 vatOf(2,0)=-9 count(11)=7 count(13)=1");

    run(12, VAT, "furnish(0,8)=0 furnish(0,0)=8 hours(1)=0 furnish(0,4)=0 vatOf(0,1)=4 furnish(2,3)=0 vatOf(2,1)=3",
        "furnish(-1,0)=-1 furnish(3,0)=-1 furnish(0,-1)=-1 furnish(0,9)=-1 vatOf(0,1)=4 count(11)=4");

    run(33, "pair(3)=0 vatOf(0,3)=0 hours(4)=0 vatOf(0,3)=0 vat(1,0)=1 hours(5)=0 vatOf(1,3)=5 vatOf(0,3)=0 vatOf(1,0)=0",
        "vat(1,-1)=1 hours(3)=0 vatOf(1,3)=5 vatOf(1,0)=-9 vatOf(3,9)=-1 vatOf(-1,0)=-1 vatOf(0,-1)=-2 vatOf(0,4)=-2",
        "count(11)=2 count(12)=2");
    run(33, VAT, "hours(2)=0 vatOf(0,2)=40 vatOf(0,3)=0 hours(1)=1 vatOf(0,2)=0 hours(20)=6 vatOf(0,2)=40 day(1,2,1)=0",
        "hours(24)=0 vatOf(0,3)=24 vatOf(0,2)=40 hours(1)=1 vatOf(0,3)=24 day(2,0,1)=60 hours(1)=0 vatOf(0,3)=25");
  }

  private static void loftAndSizing() {
    run(13, VAT, "loft(0)=10 loft(40)=0 loft(-1)=-4 loft(41)=-6 loft(least)=-4 loft(most)=-6 loft(2)=40 day(0,1,0)=4",
        "hours(9)=3 count(9)=2 postOf(1,0)=1 postOf(2,0)=0 postOf(2,4)=-9 loft(1)=2 hours(3)=1 count(9)=2 postOf(2,0)=0",
        "loft(4)=1 hours(1)=0 count(9)=4 postOf(2,4)=14 postOf(3,4)=14 postOf(1,4)=7 count(14)=2 count(16)=2");

    run(14, "hides(0)=-4 hides(-1)=-4 hides(1)=1 hides(999)=1000 hides(1)=-6 hides(most)=-6 hides(least)=-4 count(6)=1000",
        "count(14)=3 count(16)=2");
    run(14, "hides(1001)=-6 hides(1000)=1000");

    run(15, VAT, "hours(3)=1 hides(1)=1 size(0)=-3 size(1)=-1 size(-1)=-1 hours(8)=2 size(0)=-3 hours(1)=1 postOf(0,0)=2",
        "size(0)=58 count(6)=0 sheets(0,1)=58 size(0)=-3 postOf(0,0)=3 postOf(0,7)=58 hours(3)=1 size(1)=-3 hides(3)=3",
        "size(0)=-3 size(1)=58 sheets(0,1)=116 count(6)=2 count(13)=5 count(11)=2");
    run(15, VAT, "loft(0)=10 hours(3)=1 furnish(0,1)=0 hours(23)=0 loft(40)=0 hours(1)=0 postOf(0,4)=28 hours(20)=0",
        "hides(9)=9 size(0)=57");
    run(15, VAT, "loft(0)=10 hours(3)=1 furnish(0,1)=0 hours(22)=0 loft(40)=0 hours(20)=0 hides(9)=9 postOf(0,4)=27 size(0)=58");
    run(15, VAT, "loft(0)=10 hours(3)=1 furnish(0,1)=0 hours(47)=0 loft(40)=0 hours(20)=0 hides(9)=9 postOf(0,4)=52 size(0)=56");
    run(15, VAT, "loft(0)=10 hours(3)=1 furnish(0,1)=0 hours(1390)=0 loft(40)=0 hours(20)=0 hides(9)=9 size(0)=1");
    run(15, VAT, "loft(0)=10 hours(3)=1 furnish(0,1)=0 hours(1400)=0 loft(40)=0 hours(20)=0 hides(9)=9 size(0)=0 postOf(0,7)=0",
        "postOf(0,0)=3 count(6)=8 sheets(0,1)=0");
    run(15, VAT, "loft(0)=10 hours(3)=1 furnish(0,1)=0 hours(2000)=0 loft(40)=0 hours(20)=0 hides(9)=9 size(0)=0");
    run(15, PULP, "kind(5,0,40,1)=1 rags(5,100)=100 heap(5,100)=1 load(0,1,100)=1 hours(1)=0 count(35)=1400 pair(3)=0",
        "vat(1,0)=1 hours(2)=0 furnish(1,5)=0 hours(1)=1 postOf(0,2)=5 count(30)=5480 count(35)=1340 furnish(1,8)=5",
        "hours(9)=0 hides(1)=1 size(0)=58 sheets(5,3)=58 sheets(0,3)=0");

    run(16, VAT, "hours(19)=6 sizeAll()=0 hides(1)=1 postOf(2,0)=2 postOf(3,0)=1 sizeAll()=1 postOf(0,0)=3 postOf(1,0)=2",
        "count(6)=0 sizeAll()=0 hides(9)=9 sizeAll()=2 count(6)=7 sizeAll()=0 sheets(0,1)=174 postOf(2,7)=58");

    run(34, VAT, "loft(1)=10 hours(6)=2 postOf(0,0)=1 postOf(0,1)=0 postOf(0,2)=0 postOf(0,3)=4 postOf(0,4)=4 postOf(0,5)=16",
        "postOf(0,6)=-9 postOf(0,7)=-9 postOf(1,0)=0 postOf(1,3)=7 postOf(1,4)=-9 postOf(1,5)=0 day(0,1,9)=4 hours(3)=1",
        "postOf(0,0)=2 postOf(0,5)=43 postOf(0,6)=10 postOf(1,0)=0 hours(1)=0 postOf(1,0)=1 postOf(1,4)=11 postOf(1,5)=9",
        "hides(1)=1 size(0)=58 postOf(0,0)=3 postOf(0,7)=58 postOf(0,5)=43 postOf(3,9)=-1 postOf(-1,0)=-1 postOf(0,-1)=-2",
        "postOf(0,8)=-2 count(11)=2 count(12)=2");
  }

  private static void orders() {
    run(17, "duty(1,99)=0 duty(1,5)=99 duty(8,1)=0 duty(1,0)=5 duty(0,-1)=-1 duty(9,0)=-1 duty(1,-1)=-4 duty(1,100)=-6",
        "duty(1,least)=-4 duty(1,most)=-6 duty(1,3)=0 count(11)=2 count(14)=2 count(16)=2");

    run(18, "order(0,1,1,0,0)=0 order(8,8,20,100,999)=1 count(4)=2 orderOf(1,2)=20 orderOf(1,4)=999",
        "order(-1,1,0,0,0)=-1 order(9,1,1,0,0)=-1 order(0,0,1,0,0)=-1 order(0,9,1,0,0)=-1",
        "order(0,1,0,101,0)=-4 order(0,1,21,-1,0)=-4 order(0,1,1,101,-1)=-4 order(0,1,21,0,0)=-6 order(0,1,1,101,0)=-6",
        "order(0,1,1,0,1000)=-6 order(0,1,most,most,most)=-6 order(0,1,least,0,0)=-4 count(4)=2 count(11)=4 count(14)=4");
    StringBuilder twelve = new StringBuilder();
    for (int i = 0; i < 12; i++) twelve.append("order(0,1,1,5,9)=").append(i).append(' ');
    run(18, twelve.toString(), "order(0,1,1,5,9)=-6 order(0,1,0,5,9)=-4 order(9,1,1,5,9)=-1 count(4)=12");

    run(19, SHEETS, "sheets(0,1)=986 order(0,1,2,3,31)=0 order(0,1,1,3,5)=1 fill(0)=62 sheets(0,1)=26 fill(1)=1000000003",
        "fill(0)=1000000003 fill(2)=1000000001 fill(-1)=1000000001 fill(least)=1000000001 fill(most)=1000000001",
        "count(5)=1000000062 orderOf(0,5)=72 orderOf(1,5)=-9 count(11)=4 count(13)=2");
    run(19, SHEETS, "order(0,1,2,2,31)=0 fill(0)=30 count(5)=1000000030 sheets(0,1)=26");
    run(19, SHEETS, "duty(1,20)=0 duty(2,9)=0 order(0,1,1,2,31)=0 order(0,1,1,3,31)=1 fill(0)=-5 count(5)=999999995",
        "fill(1)=11 count(5)=1000000006 sheets(0,1)=26");
    run(19, SHEETS, "order(0,2,1,3,31)=0 order(1,1,1,3,31)=1 order(0,1,3,3,31)=2 fill(0)=1000000003 fill(1)=1000000003",
        "fill(2)=1000000003 sheets(0,1)=986");
    // Just enough: a POST of 16 GOOD sheets that waited 42 DAYS, and eight of 58.
    run(19, VAT, "loft(0)=10 hours(3)=1 furnish(0,1)=0 hours(1007)=0 loft(40)=0 hours(1)=0 furnish(0,0)=1 hours(24)=8 hours(10)=3",
        "furnish(0,1)=0 hides(9)=9 sizeAll()=9 sheets(0,1)=480 order(0,1,1,50,9)=0 fill(0)=9 sheets(0,1)=0");
    run(19, VAT, "loft(0)=10 hours(3)=1 furnish(0,1)=0 hours(1031)=0 loft(40)=0 hours(1)=0 furnish(0,0)=1 hours(24)=8 hours(10)=3",
        "furnish(0,1)=0 hides(9)=9 sizeAll()=9 sheets(0,1)=479 order(0,1,1,50,9)=0 fill(0)=1000000003");
    run(19, "order(0,1,1,0,9)=0 fill(0)=1000000003 orderOf(0,5)=-9 count(5)=1000000000");

    run(35, "order(3,2,4,50,60)=0 orderOf(0,0)=3 orderOf(0,1)=2 orderOf(0,2)=4 orderOf(0,3)=50 orderOf(0,4)=60 orderOf(0,5)=-9",
        "orderOf(1,9)=-1 orderOf(-1,0)=-1 orderOf(0,-1)=-2 orderOf(0,6)=-2 count(11)=2 count(12)=2");

    run(36, "kind(1,0,9,1)=1 rags(1,9)=9 heap(1,9)=0 load(0,0,9)=1 pair(1)=0 vat(0,0)=1 furnish(0,1)=0 hours(12)=2 hides(1)=1 size(0)=58",
        "sheets(1,1)=58 sheets(0,1)=0 sheets(0,2)=0 sheets(0,3)=0 sheets(0,7)=0 sheets(0,8)=0 sheets(1,2)=0 sheets(2,1)=0 sheets(8,8)=0");
    run(36, SHEETS, "sheets(0,1)=986 sheets(0,2)=0 sheets(1,1)=0 sheets(-1,1)=-1 sheets(9,1)=-1 sheets(0,0)=-1 sheets(0,9)=-1",
        "sheets(most,1)=-1 sheets(0,least)=-1 count(11)=6");
  }

  private static void best() {
    run(20, "order(0,1,1,1,9)=0 best(479)=0 best(480)=1 hours(24)=0 best(9600)=0");
    run(20, "order(0,1,1,0,9)=0 best(9600)=0");
    run(20, "order(0,1,1,1,10)=0 order(0,2,1,1,10)=1 order(3,1,2,1,10)=2 best(960)=4 best(1439)=4 best(1440)=5 best(1920)=7");
    run(20, "order(0,1,2,3,10)=0 order(0,1,2,2,10)=1 order(0,1,2,3,10)=2 best(480)=1 best(640)=3 best(959)=3 best(960)=7");
    run(20, "order(0,1,2,9,5)=0 order(0,1,1,1,7)=1 order(0,1,6,8,0)=2 best(480)=3 best(9600)=3");
    run(20, "order(0,1,3,3,10)=0 order(0,1,1,1,11)=1 order(0,1,2,3,11)=2 best(480)=6");
    run(20, "order(0,1,6,9,10)=0 order(0,1,3,4,8)=1 order(0,1,5,6,9)=2 best(480)=3 best(961)=7");
    run(20, SHEETS, "order(0,1,1,9,50)=0 order(0,1,1,9,50)=1 order(0,1,1,3,99)=2 best(480)=3 fill(0)=50 best(480)=2");
    StringBuilder eight = new StringBuilder();
    for (int i = 0; i < 8; i++) eight.append("order(0,1,1,100,1)=").append(i).append(' ');
    run(20, eight.toString(), "best(480)=255 order(1,1,1,100,1)=8 best(0)=-3 best(480)=-3 best(9601)=-3 bestWorth(480)=-3",
        "bestWorth(0)=-3 count(13)=5");
    run(20, SHEETS, eight.toString(), "order(0,1,1,100,1)=8 best(9600)=-3 fill(3)=1 best(9600)=503 bestWorth(9600)=8");
    run(20, "best(0)=-4 best(9601)=-6 best(1)=0 best(9600)=0 best(least)=-4 best(most)=-6 count(14)=2 count(16)=2");

    run(21, "order(0,1,2,3,10)=0 order(1,1,1,2,30)=1 order(2,2,5,9,7)=2 order(0,1,1,0,99)=3 bestWorth(480)=85 bestWorth(1)=0",
        "bestWorth(240)=30 best(240)=2 bestWorth(320)=65 best(320)=6 bestWorth(319)=35 bestWorth(0)=-4 bestWorth(9601)=-6 bestWorth(9600)=85 count(14)=1 count(16)=1");
    run(21, "order(0,1,20,100,999)=0 order(0,1,20,100,999)=1 bestWorth(9600)=39960 bestWorth(96)=19980 bestWorth(95)=0");
  }

  private static void hours() {
    run(22, "hours(0)=-4 hours(-1)=-4 hours(2401)=-6 hours(most)=-6 hours(least)=-4 count(0)=0 hours(2400)=0 hours(1)=-6",
        "count(0)=2400 count(14)=3 count(16)=3");
    run(22, VAT, "hours(2)=0 hours(1)=1 hours(6)=2 hours(30)=10 count(3)=13 count(7)=780 count(30)=4820");
    // WATER goes to BEATERS by numbers first, then to VATS by numbers.
    run(22, VAT, "pair(1)=1 pair(1)=2 vat(1,1)=1 vat(2,2)=1 heap(0,400)=1 kind(0,0,40,9)=1 load(1,1,10)=9 load(3,1,10)=9",
        "day(0,0,13)=60 hours(1)=0 beaterOf(1,2)=8 beaterOf(3,2)=8 vatOf(0,2)=0 vatOf(0,3)=1 vatOf(2,3)=1",
        "day(0,0,11)=13 hours(1)=0 beaterOf(1,2)=7 beaterOf(3,2)=8 vatOf(0,2)=20 vatOf(1,2)=20 vatOf(2,2)=0 vatOf(2,3)=2",
        "day(0,0,5)=11 hours(1)=0 beaterOf(1,2)=7 beaterOf(3,2)=8 vatOf(0,2)=40 vatOf(1,2)=40 vatOf(2,2)=0",
        "day(0,0,12)=5 hours(1)=0 beaterOf(3,2)=7 vatOf(0,2)=40 day(0,0,14)=12 hours(1)=1 beaterOf(3,2)=6 vatOf(1,2)=40");
    // VATS of little PULP: one takes what is there, the next finds none and leaves its WATER.
    run(22, "kind(0,0,9,1)=1 rags(0,9)=9 heap(0,9)=0 load(0,0,3)=1 pair(8)=0 pair(3)=1 pair(2)=2 vat(0,0)=1 vat(1,1)=1",
        "vat(2,2)=1 furnish(1,1)=0 day(0,0,10)=20 hours(1)=0 count(30)=0 vatOf(0,2)=5 vatOf(1,2)=0 vatOf(2,2)=1 vatOf(2,3)=0",
        "vatOf(1,3)=1 hours(1)=0 vatOf(0,3)=1 vatOf(2,3)=1 count(7)=6 load(0,0,1)=1 hours(1)=0 vatOf(0,2)=6 vatOf(2,2)=4 count(30)=0");
    // A POST that is done within an HOUR, and the next that is begun in it.
    run(22, "kind(0,0,9,1)=1 rags(0,99)=99 heap(0,99)=0 pair(1)=0 vat(0,0)=1 load(0,0,1)=1 hours(1)=0 vatOf(0,2)=14",
        "load(0,0,50)=1 hours(3)=1 vatOf(0,2)=14 mouldOf(0,6)=37 mouldOf(1,6)=37");
    // FROST, by the DAY in which the HOUR began.
    run(22, VAT, "hours(3)=1 rags(1,5)=5 kind(1,0,1,3)=1 heap(1,5)=1 load(0,1,2)=3 loft(0)=10 hours(3)=1 load(1,1,1)=3 day(1,2,1)=0",
        "hours(16)=5 loft(4)=0 beaterOf(0,0)=0 beaterOf(1,0)=0 load(0,1,1)=3 count(0)=23 hours(1)=0 beaterOf(0,2)=2 postOf(1,4)=24",
        "postOf(1,5)=4 postOf(4,4)=24 postOf(5,4)=-9 loft(6)=4 hours(1)=0 beaterOf(0,2)=2 postOf(5,4)=25 postOf(5,5)=0 postOf(1,5)=4",
        "hours(22)=0 heapOf(1,1)=1 hours(1)=0 postOf(1,5)=4 beaterOf(0,2)=2 vatOf(0,3)=24 hours(1)=1 beaterOf(0,2)=1 postOf(1,5)=8");
    // THE LOFT: by numbers; those that came in now get DRY, too, and what is DRIED leaves room for the next HOUR.
    run(22, VAT, "loft(1)=10 hours(12)=4 postOf(0,0)=2 postOf(0,6)=13 postOf(1,0)=0 hours(1)=0 postOf(1,0)=1 postOf(1,4)=14 postOf(1,5)=4",
        "postOf(2,0)=0 hours(9)=3 postOf(1,0)=2 postOf(1,6)=23 postOf(2,0)=0 count(9)=0 hours(1)=0 postOf(2,4)=24 count(9)=1");
    // Once 80 POSTS are done no more sheets are made, and no WATER is taken.
    run(22, VAT, "pair(1)=1 vat(1,1)=1 hours(119)=78 vatOf(0,2)=40 vatOf(1,2)=40 hours(1)=2 count(3)=80 count(7)=4800 vatOf(1,2)=0",
        "count(30)=800 hours(5)=0 count(7)=4800 count(30)=800 vatOf(0,3)=5 vatOf(1,3)=5");
    run(22, VAT, "pair(1)=1 hours(1)=0 vat(1,1)=1 hours(119)=79 vatOf(0,2)=0 vatOf(1,2)=40 count(30)=820 hours(1)=1 vatOf(0,2)=20",
        "vatOf(1,2)=0 count(3)=80 hours(3)=0 vatOf(0,2)=20 count(7)=4820");
    run(22, PULP, "pair(1)=0 pair(1)=1 vat(1,1)=1 hours(1)=0 vat(0,0)=1 hours(119)=79 vatOf(0,2)=40 vatOf(1,2)=0 hours(1)=1",
        "vatOf(0,2)=0 vatOf(1,2)=0 vatOf(1,3)=1 vatOf(0,3)=0 count(7)=4800 count(30)=800 vat(1,-1)=1");
    run(22, "kind(0,0,40,1)=1 rags(0,400)=400 heap(0,400)=0 day(0,0,60)=20 pair(1)=0 vat(0,0)=1 load(0,0,1)=1 hours(1)=0 vatOf(0,2)=14",
        "load(0,0,100)=1 load(1,0,100)=1 load(2,0,100)=1 load(3,0,99)=1 hours(239)=79 count(7)=4794 vatOf(0,2)=54 hours(1)=1",
        "count(7)=4800 vatOf(0,2)=0 count(30)=800");
    // HEAPS that are SPOILED.
    run(22, "kind(1,0,1,1)=1 rags(1,900)=900 heap(1,400)=0 hours(1)=0 heap(1,300)=1 hours(46)=0 count(8)=0 hours(1)=0",
        "count(8)=400 heapOf(1,1)=300 hours(1)=0 count(8)=700 load(0,1,1)=-3 hours(99)=0 count(8)=700");
  }

  private static void foretelling() {
    run(23, VAT, "foretell(3,0)=1 foretell(2,0)=0 foretell(12,1)=1 foretell(11,1)=0 foretell(1,2)=20 foretell(1,4)=5580",
        "foretell(240,0)=80 foretell(240,2)=4800 foretell(240,4)=800 count(0)=1 count(7)=0 count(3)=0 vatOf(0,2)=0 mouldOf(0,6)=0",
        "hours(3)=1 foretell(9,1)=1 foretell(9,0)=4 hides(1)=1 hours(9)=3 size(0)=58 foretell(1,1)=1 foretell(3,1)=2 foretell(3,0)=5",
        "foretell(3,2)=300 postOf(1,0)=1 count(9)=3");
    run(23, "kind(1,0,1,3)=1 kind(2,0,9,1)=1 rags(1,900)=900 rags(2,9)=9 heap(1,400)=0 heap(2,9)=1 load(0,0,10)=3 load(1,1,9)=1",
        "foretell(47,3)=0 foretell(48,3)=390 foretell(1,4)=126 foretell(3,4)=266 heapOf(0,1)=390 count(8)=0 beaterOf(0,2)=3",
        "hours(48)=0 foretell(1,3)=390 day(2,2,1)=0 foretell(24,4)=266");
    run(23, "kind(1,0,1,1)=1 rags(1,900)=900 heap(1,400)=0 hours(10)=0 heap(1,50)=1 hours(38)=0 foretell(9,3)=400 foretell(10,3)=450");
    run(23, "kind(4,0,9,2)=1 rags(4,9)=9 heap(4,9)=0 load(0,0,9)=2 pair(1)=0 vat(0,0)=1 furnish(0,4)=0 loft(0)=10 foretell(1,2)=0",
        "foretell(2,2)=20 foretell(9,2)=126 foretell(9,4)=0 foretell(99,0)=2 foretell(99,1)=0");
    run(23, "foretell(0,5)=-2 foretell(1,-1)=-2 foretell(241,5)=-2 foretell(0,0)=-4 foretell(-1,4)=-4 foretell(241,0)=-6",
        "foretell(most,0)=-6 foretell(least,0)=-4 foretell(240,0)=0 foretell(1,0)=0 hours(2160)=0 foretell(240,0)=0 hours(1)=0",
        "foretell(240,0)=-6 foretell(239,0)=0 hours(239)=0 foretell(1,0)=-6 count(12)=3 count(14)=3 count(16)=4 count(0)=2400");

    run(24, VAT, "when(0)=1 when(1)=13 when(2)=16 when(80)=-9 hours(12)=4 when(1)=13 when(2)=16 hides(1)=1 size(0)=58 when(1)=13",
        "when(2)=16 hours(2)=0 when(1)=15 when(80)=250 count(0)=15 when(-1)=-4 when(81)=-6 when(least)=-4 when(most)=-6",
        "count(14)=2 count(16)=2 hours(225)=75 when(80)=250");
    run(24, VAT, "furnish(1,1)=0 day(0,1,0)=4 day(9,1,0)=0 day(10,1,4)=0 hours(3)=1 hours(5)=1 count(0)=9 when(1)=-9 hours(1)=1",
        "when(1)=250 when(10)=250 when(11)=-9 count(0)=10 postOf(0,5)=0");
    run(24, "hours(2400)=0 when(0)=2400 when(1)=-9");
    run(24, VAT, "day(0,1,0)=4 day(98,1,0)=0 day(99,1,2)=0 hours(3)=1 furnish(0,1)=0 hours(2388)=0 count(0)=2392 when(1)=2396",
        "day(99,1,1)=2 when(1)=2400 day(99,1,0)=1 when(1)=-9");
  }

  private static void oldSheets() {
    // MOULD 0's WIRE 1 and MOULD 1's WIRE 2 wander in POST 1, behind their sheets 38 and 39.
    String three = VAT + "hours(9)=3 ";
    run(25, three, "mark(0,0,0)=50 mark(0,59,5)=50 mark(1,38,1)=50 mark(1,40,1)=51 mark(1,39,2)=50 mark(1,41,2)=51 mark(1,41,1)=50",
        "mark(1,40,2)=50 mark(2,0,1)=51 mark(2,1,1)=50 mark(2,1,2)=51 mark(2,58,1)=51",
        "mark(3,0,0)=-1 mark(-1,0,0)=-1 mark(0,-1,0)=-1 mark(0,60,0)=-1 mark(0,0,-1)=-1 mark(0,0,6)=-1 count(11)=6");
    run(25, VAT, "wire(0,4,9)=50 wire(1,4,88)=50 hours(3)=1 wire(0,4,10)=9 hours(3)=1 mark(0,0,4)=9 mark(0,1,4)=88 mark(0,58,4)=9",
        "mark(1,0,4)=10 mark(1,1,4)=88 hours(9)=3 mark(4,58,3)=50 mark(4,58,2)=51 mark(4,58,1)=51 mark(4,59,3)=51");
    run(25, PULP, "pair(1)=0 pair(2)=1 vat(0,0)=1 vat(2,1)=1 wire(3,0,7)=50 hours(3)=2 mark(0,1,0)=50 mark(1,1,0)=7 mark(1,0,0)=50",
        "hours(3)=2 mark(3,40,3)=51 mark(3,38,3)=50 mark(3,41,4)=51");
    // COUNT becomes 150 with the last sheet of a POST: that sheet has the marks ahead of it.
    run(25, VAT, "hours(15)=5 mouldOf(0,6)=150 mouldOf(0,3)=51 mark(4,58,3)=50 mark(4,0,2)=51 hours(3)=1 mark(5,0,3)=51");

    run(26, three, "oldA(50,51,50)=1 lies(0)=40 oldA(-2,0,0)=-4 oldA(0,-2,100)=-4 oldA(100,0,-2)=-4 oldA(100,0,0)=-6 oldA(0,100,0)=-6",
        "oldA(0,0,100)=-6 oldA(least,0,0)=-4 oldA(most,0,0)=-6 lies(0)=40 oldA(99,99,99)=1 lies(49)=180 lies(48)=0 oldA(-1,-1,-1)=1",
        "lies(0)=180 oldA(0,0,0)=1 lies(50)=100 count(14)=4 count(16)=4");
    run(27, three, "oldB(49,50,50)=1 lies(0)=0 lies(1)=180 oldB(50,-1,51)=1 lies(0)=0 oldB(-1,50,50)=1 lies(0)=180 oldB(-2,0,0)=-4",
        "oldB(0,-2,100)=-4 oldB(0,0,-2)=-4 oldB(100,0,0)=-6 oldB(0,100,0)=-6 oldB(0,0,100)=-6 lies(0)=180 oldA(50,51,-1)=1 lies(0)=40",
        "oldB(50,50,50)=1 lies(0)=40 count(14)=3 count(16)=3");

    run(28, VAT, "lies(0)=0 hours(8)=2 lies(0)=120 hours(1)=1 lies(0)=180 oldA(50,51,50)=1 lies(0)=40 lies(1)=180 oldA(-1,51,-1)=1",
        "lies(0)=40 oldA(51,51,50)=1 lies(0)=0 lies(1)=180 oldA(50,50,52)=1 lies(1)=40 lies(2)=180 oldA(50,50,50)=1 lies(0)=100",
        "lies(-1)=-4 lies(100)=-6 lies(99)=180 lies(least)=-4 lies(most)=-6 count(14)=2 count(16)=2");

    run(29, "nearest(0)=-9 nearest(4)=-9 nearest(5)=-2 nearest(-1)=-2 count(12)=2");
    run(29, VAT, "hours(2)=0 nearest(3)=-9 hours(7)=3 nearest(0)=0 nearest(1)=0 nearest(2)=0 nearest(3)=0 nearest(4)=4",
        "oldA(50,51,50)=1 nearest(0)=1 nearest(1)=40 nearest(2)=0 nearest(3)=0 nearest(4)=7",
        "oldA(50,50,51)=1 nearest(0)=1 nearest(1)=41 nearest(2)=1 nearest(3)=0 nearest(4)=7",
        "oldA(50,53,53)=1 nearest(0)=1 nearest(1)=40 nearest(3)=5 oldA(0,-1,-1)=1 nearest(0)=0 nearest(1)=0 nearest(3)=50",
        "oldB(99,0,50)=1 nearest(3)=149 nearest(5)=-2 nearest(-1)=-2");
    run(29, VAT, "wire(1,5,60)=50 hours(3)=1 oldB(-1,-1,59)=1 nearest(0)=0 nearest(1)=1 nearest(2)=1 nearest(3)=1");
    run(29, VAT, "hours(3)=1 wire(0,4,10)=50 wire(1,4,11)=50 hours(6)=2 oldB(-1,9,-1)=1 nearest(0)=1 nearest(1)=0 nearest(3)=1",
        "oldB(-1,13,-1)=1 nearest(0)=1 nearest(1)=1 nearest(2)=1 nearest(3)=2 oldA(-1,51,-1)=1 oldB(-1,10,-1)=1 nearest(0)=1",
        "nearest(1)=40 nearest(3)=0");
    run(29, PULP, "pair(1)=0 pair(1)=1 vat(1,1)=1 vat(0,0)=1 hours(3)=2 wire(3,0,70)=50 hours(3)=2 oldA(70,-1,-1)=1 nearest(0)=3",
        "nearest(1)=1 nearest(2)=3 nearest(3)=0 nearest(4)=7");

    run(30, three, "oldA(50,51,50)=1 span(0,0,false)=7 span(0,0,true)=10 span(1,0,false)=-9 span(1,0,true)=-9 span(1,1,false)=4",
        "span(1,1,true)=10 oldA(50,50,50)=1 span(0,0,false)=4 span(0,0,true)=7 span(1,0,true)=7 oldA(99,99,99)=1 span(0,48,true)=-9",
        "span(0,49,true)=10 span(0,99,false)=4 span(2,-1,true)=-1 span(-1,0,true)=-1 span(0,-1,true)=-4 span(0,100,false)=-6",
        "span(most,0,true)=-1 span(0,least,true)=-4 span(0,most,true)=-6 count(11)=3 count(14)=2 count(16)=2");
    run(30, PULP, "pair(1)=0 pair(1)=1 vat(0,0)=1 span(0,99,false)=-9 hours(6)=2 vat(0,1)=1 hours(3)=1 span(0,99,true)=7",
        "span(2,99,false)=10 span(3,0,true)=10");
    // A MOULD whose WIRE wanders by the last sheet of a POST has no sheet in it that is behind that.
    run(30, VAT, "hours(15)=5 oldB(51,-1,-1)=1 span(0,0,true)=-9 lies(0)=50 span(1,0,false)=13 hours(3)=1 span(0,0,false)=19");
  }

  private static void looks() {
    run(37, SHEETS, "count(0)=72 count(1)=1 count(2)=1 count(3)=17 count(4)=0 count(5)=1000000000 count(6)=3 count(7)=1020",
        "count(8)=0 count(9)=0 count(20)=19600 count(30)=4580 count(31)=0 order(0,1,1,9,7)=0 count(4)=1 fill(0)=7",
        "count(5)=1000000007 count(10)=-9 count(17)=-9 count(19)=-9 count(29)=-9 count(39)=-9 count(-1)=-9 count(40)=-9",
        "count(most)=-9 count(least)=-9 count(11)=0 count(12)=0 count(13)=0 count(14)=0 count(15)=0 count(16)=0");
    run(37, "size(0)=-1 heapOf(0,0)=-1 dayOf(0,7)=-2 vat(0,-1)=1 hides(0)=-4 hides(9999)=-6 hides(9999)=-6 fill(0)=1000000001",
        "order(0,1,1,1,1)=0 fill(0)=1000000003 nearest(0)=-9 count(99)=-9 count(11)=3 count(12)=1 count(13)=1 count(14)=1",
        "count(15)=0 count(16)=2");
    run(37, Runs.times(511, "size(0)=-1"), "count(11)=511");
    run(37, "rags(8,11)=11 rags(0,5)=5 count(28)=11 count(20)=5 kind(8,0,40,1)=1 heap(8,2)=0 load(0,0,2)=1 hours(1)=0 count(38)=28");
  }
}

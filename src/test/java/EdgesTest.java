/**
 * Promise by promise each sentence of the document that names an edge: the least and the greatest, empty and full,
 * none and all, just enough and one less, where something ends. How a text of calls is written stands at Script.
 */
public final class EdgesTest {
    private static final String LONGEST = "5/33/5/33/5/33/5/33/5";

    public static void main(String[] args) {
        newObject();
        say();
        wipe();
        fault();
        faultAtEachPlace();
        read();
        spot();
        glueAndWork();
        pull();
        give();
        hardest();
        back();
        spreads();
        first();
        snap();
        rounds();
        set();
        damp();
        hoursOfDamp();
        hoursOfCure();
        of();
        rate();
        joint();
        best();
        bestOrders();
        begun();
        strip();
        bar();
        strips();
        weak();
        odd();
        knock();
        sheet();
        table();
        fit();
        fits();
        sure();
        unseen();
        choice();
        cheapest();
        ledStrength();
        ledCauses();
        told();
        longRuns();
        Script.finish();
    }

    private static void newObject() {
        Script.due(1, "there are no LAPS", "told(1)=0 of(0,11)=UNKNOWN of(1,11)=UNKNOWN of(2,11)=UNKNOWN of(3,11)=UNKNOWN",
            "of(4,11)=UNKNOWN of(5,11)=UNKNOWN hardest(0)=UNKNOWN give(0)=UNKNOWN");
        Script.due(1, "there are no signs", "told(0)=0 wipe()=0 fault()=0 read(0)=NO");
        Script.due(1, "LASTS 100000, SHARE 20, AIR 0, WARMTH 20 at first", "told(10)=100000 told(11)=20 told(12)=0 told(13)=20");
        Script.due(1, "CLAMPS 1, LINE 1000, STEP 3, MARGIN 20 at first", "told(14)=1 told(15)=1000 told(16)=3 told(17)=20");
        Script.due(1, "WORK 10, WEAR 0 at first", "lap(0," + LONGEST + ")=5 spot(0,0,3)=10 spot(0,4,3)=10 spot(0,0,4)=0 spot(0,4,4)=0");
        Script.due(1, "CELLS 0, CURE 0 at first", "lap(0,1)=1 of(0,0)=0 of(0,1)=0 of(0,2)=0 of(0,3)=0 of(0,4)=0 of(0,5)=0 of(0,6)=0",
            "of(0,7)=0 of(0,8)=0 of(0,9)=0 of(0,10)=0");
        Script.due(1, "RATES 0 at first", "rate(0,0)=0 rate(1,0)=0 rate(2,0)=0 rate(3,0)=0 rate(4,0)=0");
        Script.due(1, "there is no JOINT at first", "told(4)=0 best(-1)=0 best(0)=NONE begun(0)=UNKNOWN begun(6)=UNKNOWN",
            "joint(0,0,0)=0 joint(1,0,0)=0 joint(2,0,0)=0 joint(3,0,0)=0 joint(4,0,0)=0 joint(5,0,0)=0 joint(6,0,0)=0");
        Script.due(1, "no STRIPS, none is WEAK", "told(2)=0 weak()=0 strips(0)=STATE strips(1)=STATE odd(1)=STATE bar(0,true)=UNKNOWN");
        for (int place = 0; place < 10; place++) {
            Script.due(1, "no SOUND, SHEET 0 at first, PLACE " + place,
                "fit(" + place + ")=15 sure(" + place + ")=NONE knock(" + place + ",-1)=NONE sheet(" + place + ",0)=0");
        }
        for (int sheet = 0; sheet < 4; sheet++) {
            Script.due(1, "TABLE 0 at first, SHEET " + sheet, "unseen(" + sheet + ")=6",
                "table(" + sheet + ",0,0)=0 table(" + sheet + ",1,0)=0 table(" + sheet + ",2,0)=0 table(" + sheet + ",3,0)=0");
        }
        Script.due(1, "no CHOICES", "told(3)=0 cheapest(0,-1)=NONE cheapest(0,0)=NONE cheapest(10000,3)=NONE");
    }

    private static void say() {
        Script.due(2, "the least and the greatest sign", "say(33)=1 say(126)=2 told(0)=2");
        Script.due(2, "codes below 33 are OUTSIDE", "say(32)=OUTSIDE say(0)=OUTSIDE say(-1)=OUTSIDE say(LEAST)=OUTSIDE told(0)=0");
        Script.due(2, "codes above 126 are OUTSIDE", "say(127)=OUTSIDE say(128)=OUTSIDE say(MOST)=OUTSIDE told(0)=0");
        Script.due(2, "a code does not wrap around", "say(305)=OUTSIDE say(65585)=OUTSIDE say(-207)=OUTSIDE say(-65487)=OUTSIDE told(0)=0");
        Script.due(2, "40 signs at most", "39*say(49)=39 say(33)=40 say(49)=FULL say(49)=FULL told(0)=40");
        Script.due(2, "OUTSIDE comes ahead of FULL", "40*say(49)=40 say(32)=OUTSIDE say(127)=OUTSIDE told(0)=40");
        Script.due(2, "FULL is over when signs are wiped", "40*say(49)=40 say(49)=FULL wipe()=40 say(49)=1");
        Script.due(2, "a text that no LAP has is taken all the same", "say(97)=1 say(97)=2 fault()=0");
    }

    private static void wipe() {
        Script.due(3, "no signs", "wipe()=0 wipe()=0 told(0)=0");
        Script.due(3, "one sign", "say(53)=1 wipe()=1 wipe()=0 fault()=0");
        Script.due(3, "all 40 signs", "40*say(126)=40 wipe()=40 told(0)=0");
        Script.due(3, "signs that were read are gone", "lap(0,1)=1 wipe()=0");
        Script.due(3, "a LAP stays", "lap(0,1)=1 text(4/33) wipe()=4 told(1)=1 of(0,11)=1 spot(0,0,0)=1");
        Script.due(3, "nothing of the old signs comes back", "text(1/33/1) wipe()=6 say(50)=1 read(0)=1 spot(0,0,0)=2 of(0,11)=1");
    }

    private static void fault() {
        Script.due(4, "the empty text has it at 0", "fault()=0 fault()=0");
        Script.due(4, "one SPOT is a text", "text(0) fault()=NONE text(5) fault()=NONE");
        Script.due(4, "a SPOT's digit is 0 to 5", "text(6) fault()=0 text(9) fault()=0 text(/) fault()=0 text(:) fault()=0");
        Script.due(4, "behind the last sign: their number", "text(1/) fault()=2 text(1/2) fault()=3 text(1/23) fault()=4 text(1/23/)",
            "fault()=5 text(1/23/4) fault()=NONE");
        Script.due(4, "digits of PIECES are 0 to 3", "text(1/00/1) fault()=NONE text(1/33/1) fault()=NONE text(1/43/1) fault()=2",
            "text(1/34/1) fault()=3 text(1//3/1) fault()=2 text(1/3//1) fault()=3");
        Script.due(4, "two digits, not one and not three", "text(1/3/1) fault()=3 text(1/333/1) fault()=4");
        Script.due(4, "behind a SPOT there is a / alone", "text(11) fault()=1 text(1.) fault()=1 text(10/00/1) fault()=1");
        Script.due(4, "5 SPOTS are a text", "text(" + LONGEST + ") fault()=NONE");
        Script.due(4, "a / behind 5 SPOTS does not stand", "text(" + LONGEST + "/) fault()=21 text(" + LONGEST + "/33/5) fault()=21");
        Script.due(4, "nothing else stands behind 5 SPOTS", "text(" + LONGEST + "5) fault()=21");
        Script.due(4, "4 SPOTS may go on", "text(5/33/5/33/5/33/5/) fault()=17 text(5/33/5/33/5/33/5) fault()=NONE");
        Script.due(4, "the first place of several", "text(6/44/6) fault()=0 text(5/44/6) fault()=2 text(5/34/6) fault()=3 text(5/33/6/)",
            "fault()=5");
        Script.due(4, "40 signs", "40*say(49)=40 fault()=1 text(" + LONGEST + "/33/5/33/5/33/5/33) fault()=21");
        Script.due(4, "it is gone when signs go", "text(1/3) fault()=3 wipe()=3 fault()=0 say(49)=1 fault()=NONE");
    }

    /** Which signs stand at a place of the longest text: any other has its FAULT just there. */
    private static void faultAtEachPlace() {
        for (int place = 0; place < LONGEST.length(); place++) {
            int most = LONGEST.charAt(place);
            int least = most == '/' ? '/' : '0';
            for (int sign = 33; sign <= 126; sign++) {
                boolean stands = sign >= least && sign <= most;
                String due = !stands ? "" + place : (place + 1) % 5 == 1 ? "NONE" : "" + (place + 1);
                Script.due(4, "sign " + sign + " at place " + place,
                    "text(" + LONGEST.substring(0, place) + ") say(" + sign + ")=" + (place + 1) + " fault()=" + due);
            }
        }
    }

    private static void read() {
        Script.due(5, "LAPS are 0 to 5", "lap(0,1)=1 lap(5,1/00/1)=2 told(1)=33 text(1) read(-1)=UNKNOWN read(6)=UNKNOWN",
            "read(LEAST)=UNKNOWN read(MOST)=UNKNOWN told(0)=1 told(1)=33");
        Script.due(5, "one SPOT", "text(0) read(0)=1 of(0,11)=1 spot(0,0,0)=0");
        Script.due(5, "5 SPOTS", "text(" + LONGEST + ") read(0)=5 of(0,11)=5 spot(0,4,0)=5 spot(0,5,0)=UNKNOWN");
        Script.due(5, "NO: no signs", "read(0)=NO read(5)=NO told(1)=0");
        Script.due(5, "NO: a text that has not ended", "text(1/33/) read(0)=NO told(0)=5 told(1)=0 say(49)=6 read(0)=2");
        Script.due(5, "NO: a / behind 5 SPOTS", "text(" + LONGEST + "/) read(0)=NO told(0)=22 told(1)=0");
        Script.due(5, "UNKNOWN comes ahead of NO", "read(6)=UNKNOWN text(9) read(-1)=UNKNOWN told(0)=1");
        Script.due(5, "NO leaves the LAP that was there", "lap(2,3/12/4)=2 work(2,1,7)=10 damp(2,0,5)=0 text(3/1) read(2)=NO spot(2,1,3)=7",
            "spot(2,0,0)=3 of(2,0)=5");
        Script.due(5, "the signs are empty then", "lap(0,1/00/1)=2 told(0)=0 fault()=0 read(1)=NO told(1)=1");
        Script.due(5, "its WORKS are 10 then", "lap(0,1/00/1)=2 work(0,0,0)=10 work(0,1,1000)=10 lap(0,1/00/1)=2 spot(0,0,3)=10",
            "spot(0,1,3)=10");
        Script.due(5, "its WEAR is 0 then", "lap(0,1/00/1)=2 rounds(0,2,1)=NONE spot(0,1,4)=1000 lap(0,1/00/1)=2 spot(0,0,4)=0",
            "spot(0,1,4)=0");
        Script.due(5, "its DAMP is 0 then", "lap(0,1)=1 damp(0,0,1000)=0 damp(0,9,1)=0 lap(0,1)=1 of(0,0)=0 of(0,9)=0");
        Script.due(5, "its CURE is 0 then", "lap(0,1)=1 rate(2,100)=0 hours(0,10)=1000 lap(0,1)=1 of(0,10)=0");
        Script.due(5, "fewer SPOTS than it had",
            "lap(0," + LONGEST + ")=5 lap(0,2)=1 of(0,11)=1 of(0,12)=1 spot(0,0,1)=NONE spot(0,1,0)=UNKNOWN give(0)=1/2");
        Script.due(5, "more SPOTS than it had", "lap(0,2)=1 lap(0,1/10/0/02/3)=3 spot(0,0,1)=1 spot(0,1,2)=2 spot(0,2,1)=NONE",
            "spot(0,2,0)=3");
        Script.due(5, "a LAP that was LOOSE holds again", "lap(0,0)=1 give(0)=STATE lap(0,4)=1 give(0)=1/4");
        Script.due(5, "other LAPS stay", "lap(0,1)=1 work(0,0,3)=10 lap(1,2)=1 spot(0,0,3)=3 spot(0,0,0)=1 spot(1,0,3)=10 spot(1,0,0)=2");
    }

    private static void spot() {
        Script.due(6, "g, a, b, WORK, WEAR", "lap(0,2/13/5)=2 spot(0,0,0)=2 spot(0,0,1)=1 spot(0,0,2)=3 spot(0,0,3)=10 spot(0,0,4)=0");
        Script.due(6, "of the last one there is no PIECE behind", "lap(0,2/13/5)=2 spot(0,1,1)=NONE spot(0,1,2)=NONE spot(0,1,0)=5",
            "spot(0,1,3)=10");
        Script.due(6, "the only one is the last one", "lap(0,0)=1 spot(0,0,1)=NONE spot(0,0,2)=NONE");
        Script.due(6, "a PIECE of 0 is not none", "lap(0,0/00/0)=2 spot(0,0,1)=0 spot(0,0,2)=0");
        Script.due(6, "the least and the greatest", "lap(0,0/03/5/30/0)=3 spot(0,0,0)=0 spot(0,0,1)=0 spot(0,0,2)=3 spot(0,1,0)=5",
            "spot(0,1,1)=3 spot(0,1,2)=0");
        Script.due(6, "no such LAP", "lap(1,1)=1 spot(0,0,0)=UNKNOWN spot(2,0,0)=UNKNOWN spot(-1,0,0)=UNKNOWN spot(6,0,0)=UNKNOWN",
            "spot(1,0,0)=1");
        Script.due(6, "no such SPOT", "lap(0,1/00/1)=2 spot(0,2,0)=UNKNOWN spot(0,-1,0)=UNKNOWN spot(0,5,0)=UNKNOWN",
            "spot(0,MOST,0)=UNKNOWN spot(0,LEAST,0)=UNKNOWN");
        Script.due(6, "what is 0 to 4", "lap(0,1)=1 spot(0,0,5)=OUTSIDE spot(0,0,-1)=OUTSIDE spot(0,0,MOST)=OUTSIDE",
            "spot(0,0,LEAST)=OUTSIDE");
        Script.due(6, "UNKNOWN comes ahead of OUTSIDE", "lap(0,1)=1 spot(0,1,5)=UNKNOWN spot(1,0,5)=UNKNOWN");
    }

    private static void glueAndWork() {
        Script.due(7, "g is 0 to 5", "lap(0,3)=1 glue(0,0,0)=3 glue(0,0,5)=0 glue(0,0,6)=OUTSIDE glue(0,0,-1)=OUTSIDE",
            "glue(0,0,MOST)=OUTSIDE spot(0,0,0)=5");
        Script.due(7, "a SPOT of a LOOSE LAP is glued again", "lap(0,0)=1 hardest(0)=STATE glue(0,0,1)=0 hardest(0)=0 of(0,12)=1");
        Script.due(7, "the last one off: LOOSE", "lap(0,1/00/1)=2 glue(0,0,0)=1 of(0,12)=1 hardest(0)=1 glue(0,1,0)=1 of(0,12)=0",
            "hardest(0)=STATE");
        Script.due(7, "no such LAP or SPOT, ahead of OUTSIDE", "lap(0,1)=1 glue(0,1,1)=UNKNOWN glue(0,-1,6)=UNKNOWN glue(1,0,6)=UNKNOWN",
            "glue(6,0,0)=UNKNOWN");
        Script.due(7, "WORK and WEAR stay", "lap(0,1)=1 work(0,0,50)=10 rounds(0,1,1)=NONE glue(0,0,0)=1 glue(0,0,2)=0 spot(0,0,3)=50",
            "spot(0,0,4)=1000");
        Script.due(8, "WORK is 0 to 1000", "lap(0,3)=1 work(0,0,0)=10 work(0,0,1000)=0 work(0,0,1001)=OUTSIDE work(0,0,-1)=OUTSIDE",
            "work(0,0,LEAST)=OUTSIDE spot(0,0,3)=1000");
        Script.due(8, "of a SPOT that is off, too", "lap(0,0)=1 work(0,0,5)=10 spot(0,0,3)=5");
        Script.due(8, "no such LAP or SPOT, ahead of OUTSIDE", "lap(0,1)=1 work(0,1,1)=UNKNOWN work(0,-1,1001)=UNKNOWN",
            "work(1,0,-1)=UNKNOWN work(-1,0,0)=UNKNOWN");
        Script.due(8, "each SPOT has its own", "lap(0,1/00/1)=2 work(0,1,77)=10 spot(0,0,3)=10 spot(0,1,3)=77");
    }

    private static void pull() {
        Script.due(9, "one SPOT takes all", "lap(0,5)=1 pull(0,0,0)=1/5 pull(0,0,1)=1/1 pull(0,0,2)=0/1");
        Script.due(9, "PULL behind the last one is 0", "lap(0,1/33/2)=2 pull(0,1,2)=0/1 lap(0," + LONGEST + ")=5 pull(0,4,2)=0/1");
        Script.due(9, "PULL ahead of all that hold is 1", "lap(0,0/11/0/11/1)=3 pull(0,0,2)=1/1 pull(0,1,2)=1/1 pull(0,2,2)=0/1");
        Script.due(9, "PULL behind all that hold is 0", "lap(0,1/11/0/11/0)=3 pull(0,0,2)=0/1 pull(0,1,2)=0/1 pull(0,2,2)=0/1");
        Script.due(9, "SLIP of a SPOT that is off", "lap(0,0/33/0/33/1/33/0/33/0)=5 pull(0,0,0)=7/1 pull(0,1,0)=4/1 pull(0,2,0)=1/1",
            "pull(0,3,0)=4/1 pull(0,4,0)=7/1");
        Script.due(9, "SHEAR of a SPOT that is off is none", "lap(0,0/33/0/33/1/33/0/33/0)=5 pull(0,0,1)=0/1 pull(0,4,1)=0/1",
            "pull(0,2,1)=1/1");
        Script.due(9, "sheets that do not give way: all SLIPS alike", "lap(0,1/00/2/00/5)=3 pull(0,0,0)=1/8 pull(0,1,0)=1/8",
            "pull(0,2,0)=1/8 pull(0,0,1)=1/8 pull(0,1,1)=1/4 pull(0,2,1)=5/8 pull(0,0,2)=7/8 pull(0,1,2)=5/8");
        Script.due(9, "0 by 1 for none, of a SPOT that holds", "lap(0,1/10/1/01/1)=3 pull(0,1,0)=0/1 pull(0,1,1)=0/1 pull(0,0,1)=1/2",
            "pull(0,2,1)=1/2 pull(0,1,2)=1/2");
        Script.due(9, "the lower number is above 0 if the upper one is below", "lap(0,3/21/1/03/0/30/5)=4 pull(0,1,0)=-26/453",
            "pull(0,1,1)=-26/453");
        Script.due(9, "what is 0 to 2, part 0 or 1", "lap(0,1)=1 pull(0,0,3)=OUTSIDE pull(0,0,-1)=OUTSIDE pull(0,0,0,2)=OUTSIDE",
            "pull(0,0,0,-1)=OUTSIDE pull(0,0,MOST,0)=OUTSIDE pull(0,0,0,LEAST)=OUTSIDE");
        Script.due(9, "no such LAP or SPOT", "lap(0,1/00/1)=2 pull(0,2,0)=UNKNOWN pull(0,-1,0)=UNKNOWN pull(1,0,0)=UNKNOWN",
            "pull(-1,0,0)=UNKNOWN pull(6,0,0)=UNKNOWN");
        Script.due(9, "UNKNOWN ahead of OUTSIDE", "lap(0,1)=1 pull(0,1,3,2)=UNKNOWN pull(1,0,3,2)=UNKNOWN");
        Script.due(9, "LOOSE", "lap(0,0/11/0)=2 pull(0,0,0)=STATE pull(0,1,1)=STATE pull(0,1,2)=STATE");
        Script.due(9, "UNKNOWN, OUTSIDE ahead of STATE", "lap(0,0/11/0)=2 pull(0,2,0,0)=UNKNOWN pull(0,0,3,0)=OUTSIDE",
            "pull(0,0,0,2)=OUTSIDE");
    }

    private static void give() {
        Script.due(10, "one SPOT", "lap(0,1)=1 give(0)=1/1 lap(0,5)=1 give(0)=1/5");
        Script.due(10, "sheets that do not give way", "lap(0,5/00/5/00/5/00/5/00/5)=5 give(0)=1/25");
        Script.due(10, "the greatest: all the way and the weakest glue", "lap(0,0/33/0/33/1/33/0/33/0)=5 give(0)=13/1",
            "lap(0,0/33/0/33/0/33/0/33/1)=5 give(0)=13/1 lap(0,1/33/0/33/0/33/0/33/0)=5 give(0)=13/1");
        Script.due(10, "PIECES ahead of the first that holds: the upper ones", "lap(0,0/30/1)=2 give(0)=4/1 lap(0,0/03/1)=2 give(0)=1/1");
        Script.due(10, "PIECES behind the last that holds: the lower ones", "lap(0,1/30/0)=2 give(0)=1/1 lap(0,1/03/0)=2 give(0)=4/1");
        Script.due(10, "UNKNOWN, OUTSIDE, STATE", "lap(0,0)=1 give(1,2)=UNKNOWN give(-1,0)=UNKNOWN give(6,0)=UNKNOWN give(0,2)=OUTSIDE",
            "give(0,-1)=OUTSIDE give(0)=STATE");
    }

    private static void hardest() {
        Script.due(11, "of several the first", "lap(0,2/11/2)=2 hardest(0)=0 lap(0," + LONGEST + ")=5 hardest(0)=0");
        Script.due(11, "of several that are not off the first", "lap(0,0/11/2/11/2)=3 hardest(0)=1",
            "lap(0," + LONGEST + ")=5 glue(0,0,0)=5 glue(0,4,0)=5 hardest(0)=1");
        Script.due(11, "the last one", "lap(0,1/00/1/00/1/00/1/00/2)=5 hardest(0)=4");
        Script.due(11, "the only one that holds", "lap(0,0/33/0/33/0/33/0/33/1)=5 hardest(0)=4 lap(0,1)=1 hardest(0)=0");
        Script.due(11, "by SHEAR, not by SLIP", "lap(0,5/00/1)=2 hardest(0)=0 lap(0,1/00/5)=2 hardest(0)=1");
        Script.due(11, "by size, if it is below 0", "lap(0,5/00/5/30/5/03/5/00/5)=5 pull(0,2,1)=-29/35 pull(0,0,1)=16/35 hardest(0)=2");
        Script.due(11, "UNKNOWN; STATE", "lap(0,0)=1 hardest(0)=STATE hardest(1)=UNKNOWN hardest(-1)=UNKNOWN hardest(6)=UNKNOWN");
    }

    private static void back() {
        Script.due(12, "of the last one that holds: half of p times p times GIVE", "lap(0,1)=1 back(0,0,1)=1/2 back(0,0,100)=5000/1",
            "lap(0,0/33/0/33/1/33/0/33/0)=5 back(0,2,1)=13/2 back(0,2,100)=65000/1");
        Script.due(12, "of two: what GIVE becomes more", "lap(0,1/00/1)=2 back(0,0,1)=1/4 back(0,1,100)=2500/1");
        Script.due(12, "p is 1 to 100", "lap(0,1)=1 back(0,0,0)=OUTSIDE back(0,0,101)=OUTSIDE back(0,0,-1)=OUTSIDE back(0,0,MOST)=OUTSIDE",
            "back(0,0,LEAST)=OUTSIDE");
        Script.due(12, "part is 0 or 1", "lap(0,1)=1 back(0,0,1,2)=OUTSIDE back(0,0,1,-1)=OUTSIDE");
        Script.due(12, "0 by 1 for none", "lap(0,1/10/1/01/1)=3 back(0,1,1)=0/1 back(0,1,100)=0/1");
        Script.due(12, "STATE: it is off, though others hold", "lap(0,0/11/2)=2 back(0,0,1)=STATE back(0,1,1)=3/4");
        Script.due(12, "STATE: LOOSE", "lap(0,0/11/0)=2 back(0,0,1)=STATE back(0,1,100)=STATE");
        Script.due(12, "UNKNOWN, OUTSIDE ahead of STATE", "lap(0,0)=1 back(0,1,0,2)=UNKNOWN back(1,0,0,2)=UNKNOWN back(0,-1,1,0)=UNKNOWN",
            "back(0,0,101,0)=OUTSIDE back(0,0,1,2)=OUTSIDE");
    }

    private static void spreads() {
        Script.due(13, "its WORK or more: just its WORK", "lap(0,5)=1 work(0,0,1000)=10 back(0,0,100)=1000/1 spreads(0,100)=1",
            "spreads(0,99)=0");
        Script.due(13, "one less than WORK", "lap(0,1/00/1)=2 work(0,0,9)=10 work(0,1,10)=10 back(0,0,6)=9/1 spreads(0,6)=1",
            "spreads(0,5)=0 spreads(0,7)=3");
        Script.due(13, "WORK 0: by any pull", "lap(0,5/33/5)=2 work(0,1,0)=10 spreads(0,1)=2");
        Script.due(13, "WORK 0 of one that gives back nothing", "lap(0,1/10/1/01/1)=3 work(0,1,0)=10 spreads(0,1)=2 work(0,1,1)=0",
            "work(0,0,1000)=10 work(0,2,1000)=10 back(0,0,100)=10000/3 spreads(0,100)=5");
        Script.due(13, "all five, as bits",
            "lap(0," + LONGEST + ")=5 work(0,0,0) work(0,1,0) work(0,2,0) work(0,3,0) work(0,4,0) spreads(0,1)=31");
        Script.due(13, "one that is off does not", "lap(0,0/00/1)=2 work(0,0,0)=10 spreads(0,100)=2 spreads(0,1)=0");
        Script.due(13, "p is 1 to 100", "lap(0,1)=1 spreads(0,0)=OUTSIDE spreads(0,101)=OUTSIDE spreads(0,MOST)=OUTSIDE",
            "spreads(0,LEAST)=OUTSIDE");
        Script.due(13, "UNKNOWN, OUTSIDE, STATE in this order", "lap(0,0)=1 spreads(1,0)=UNKNOWN spreads(-1,1)=UNKNOWN",
            "spreads(6,1)=UNKNOWN spreads(0,0)=OUTSIDE spreads(0,1)=STATE");
    }

    private static void first() {
        Script.due(14, "1 is the least", "lap(0,1)=1 work(0,0,0)=10 first(0)=1");
        Script.due(14, "100 is the greatest", "lap(0,5)=1 work(0,0,1000)=10 first(0)=100 lap(0,5/00/5)=2 work(0,0,500) work(0,1,500)",
            "first(0)=100");
        Script.due(14, "none up to 100", "lap(0,5/00/5)=2 work(0,0,501) work(0,1,501) first(0)=NONE");
        Script.due(14, "some SPOT: any of them", "lap(0,5/00/5)=2 work(0,0,501) work(0,1,500) first(0)=100 work(0,0,0) first(0)=1");
        Script.due(14, "just by its WORK", "lap(0,1)=1 work(0,0,8)=10 first(0)=4 work(0,0,9)=8 first(0)=5");
        Script.due(14, "one that is off does not count", "lap(0,0/00/1)=2 work(0,0,0)=10 first(0)=5");
        Script.due(14, "UNKNOWN; STATE", "lap(0,0/11/0)=2 first(0)=STATE first(1)=UNKNOWN first(-1)=UNKNOWN first(6)=UNKNOWN");
    }

    private static void snap() {
        Script.due(15, "none goes off", "lap(0,1)=1 snap(0,4)=0 of(0,12)=1 spot(0,0,0)=1");
        Script.due(15, "the only one: it RUNS", "lap(0,1)=1 snap(0,5)=-99 of(0,12)=0 snap(0,5)=STATE");
        Script.due(15, "all five: it RUNS", "lap(0,5/00/5/00/5/00/5/00/5)=5 work(0,0,0) work(0,1,0) work(0,2,0) work(0,3,0) work(0,4,0)",
            "snap(0,1)=-95 of(0,12)=0");
        Script.due(15, "four of five: it STOPS", "lap(0,5/00/5/00/5/00/5/00/5)=5 work(0,0,0) work(0,1,0) work(0,2,0) work(0,3,0)",
            "snap(0,1)=4 of(0,12)=1 spot(0,4,0)=5 snap(0,1)=0");
        Script.due(15, "just by its WORK, and not by one less", "lap(0,5)=1 work(0,0,1000)=10 snap(0,99)=0 snap(0,100)=-99");
        Script.due(15, "the lowest number goes, and step by step", "lap(0,1/00/1/00/1)=3 work(0,0,1000) work(0,2,2) work(0,1,1)",
            "spreads(0,4)=2 snap(0,4)=2 spot(0,0,0)=1 spot(0,1,0)=0 spot(0,2,0)=0");
        Script.due(15, "one with a lower number that only SPREADS later", "lap(0,1/00/1)=2 work(0,0,16)=10 work(0,1,4)=10 spreads(0,4)=2",
            "snap(0,4)=1 spot(0,0,0)=1 spreads(0,5)=0 spreads(0,6)=1");
        Script.due(15, "those that were off do not count", "lap(0,0/00/1/00/0)=3 snap(0,100)=-99");
        Script.due(15, "p is 1 to 100", "lap(0,5)=1 snap(0,0)=OUTSIDE snap(0,101)=OUTSIDE snap(0,MOST)=OUTSIDE snap(0,LEAST)=OUTSIDE",
            "of(0,12)=1");
        Script.due(15, "UNKNOWN, OUTSIDE, STATE in this order", "lap(0,0)=1 snap(1,0)=UNKNOWN snap(-1,1)=UNKNOWN snap(6,1)=UNKNOWN",
            "snap(0,0)=OUTSIDE snap(0,1)=STATE");
    }

    private static void rounds() {
        Script.due(16, "LASTS or more: just LASTS", "lap(0,1)=1 set(0,1000)=100000 rounds(0,1,1)=1 of(0,12)=0 spot(0,0,4)=1000");
        Script.due(16, "one less than LASTS", "lap(0,1)=1 set(0,1001)=100000 rounds(0,1,1)=NONE of(0,12)=1 rounds(0,1,1)=1",
            "spot(0,0,4)=2000");
        Script.due(16, "LASTS at its least", "lap(0,5/00/5/00/5)=3 set(0,1)=100000 rounds(0,1,1000)=1 of(0,12)=0 spot(0,2,4)=333");
        Script.due(16, "LASTS at its greatest, after all of 1000", "lap(0,1)=1 set(0,1000000)=100000 rounds(0,1,1000)=1000",
            "spot(0,0,4)=1000000 of(0,12)=0");
        Script.due(16, "one ROUND less holds", "lap(0,1)=1 set(0,1000000)=100000 rounds(0,1,999)=NONE spot(0,0,4)=999000 rounds(0,1,1)=1");
        Script.due(16, "LASTS as at first, by the greatest pull", "lap(0,1)=1 rounds(0,100,1)=1 lap(0,1)=1 rounds(0,99,1)=NONE",
            "spot(0,0,4)=99000 rounds(0,100,1000)=1");
        Script.due(16, "cut once, behind all that is multiplied", "lap(0,5/00/5/00/5)=3 rounds(0,1,1)=NONE spot(0,0,4)=333",
            "rounds(0,2,1)=NONE spot(0,0,4)=999 rounds(0,3,1)=NONE spot(0,0,4)=1999");
        Script.due(16, "cut in each ROUND", "lap(0,5/00/5/00/5)=3 rounds(0,1,3)=NONE spot(0,0,4)=999 spot(0,1,4)=999 spot(0,2,4)=999");
        Script.due(16, "all by the LAP as it is at its beginning", "lap(0,1/10/1/01/1)=3 set(0,1)=100000 rounds(0,1,1)=NONE",
            "spot(0,0,4)=500 spot(0,1,4)=0 spot(0,2,4)=500 of(0,12)=1 rounds(0,1,1)=1 spot(0,1,4)=1000");
        Script.due(16, "after how many of them in one call", "lap(0,1/10/1/01/1)=3 set(0,1)=100000 rounds(0,1,2)=2 lap(0,1/10/1/01/1)=3",
            "rounds(0,1,1000)=2");
        Script.due(16, "of one that is off WEAR stays", "lap(0,0/00/1)=2 rounds(0,10,3)=NONE spot(0,0,4)=0 spot(0,1,4)=30000",
            "glue(0,1,0)=1 glue(0,0,1)=0 rounds(0,10,1)=NONE spot(0,1,4)=30000 spot(0,0,4)=10000");
        Script.due(16, "by size, if SHEAR is below 0", "lap(0,3/21/1/03/0/30/5)=4 rounds(0,100,1)=NONE spot(0,1,4)=5739 spot(0,0,4)=58278",
            "spot(0,3,4)=47461 spot(0,2,4)=0");
        Script.due(16, "a LASTS set below WEAR counts in the next ROUND alone", "lap(0,1)=1 rounds(0,1,5)=NONE set(0,5000)=100000",
            "of(0,12)=1 rounds(0,1,9)=1 spot(0,0,4)=6000");
        Script.due(16, "n is 1 to 1000", "lap(0,1)=1 rounds(0,1,0)=OUTSIDE rounds(0,1,1001)=OUTSIDE rounds(0,1,-1)=OUTSIDE",
            "rounds(0,1,MOST)=OUTSIDE rounds(0,1,LEAST)=OUTSIDE spot(0,0,4)=0");
        Script.due(16, "p is 1 to 100", "lap(0,1)=1 rounds(0,0,1)=OUTSIDE rounds(0,101,1)=OUTSIDE rounds(0,MOST,1)=OUTSIDE",
            "rounds(0,LEAST,1)=OUTSIDE spot(0,0,4)=0");
        Script.due(16, "UNKNOWN, OUTSIDE, STATE in this order", "lap(0,0)=1 rounds(1,0,0)=UNKNOWN rounds(-1,1,1)=UNKNOWN",
            "rounds(6,1,1)=UNKNOWN rounds(0,0,1)=OUTSIDE rounds(0,1,0)=OUTSIDE rounds(0,1,1)=STATE");
    }

    private static void set() {
        int[][] rows = {{1, 1000000}, {0, 50}, {0, 1000}, {0, 49}, {1, 3}, {0, 10000}, {0, 3}, {0, 100}};
        String[] names = {"LASTS", "SHARE", "AIR", "WARMTH", "CLAMPS", "LINE", "STEP", "MARGIN"};
        for (int which = 0; which < rows.length; which++) {
            int least = rows[which][0];
            int most = rows[which][1];
            String set = "set(" + which + ",";
            Script.due(17, names[which] + " from the least to the greatest",
                set + least + ") " + set + most + ")=" + least + " " + set + least + ")=" + most + " told(" + (10 + which) + ")=" + least);
            Script.due(17, names[which] + " below or above",
            set + most + ") " + set + (least - 1) + ")=OUTSIDE " + set + (most + 1) + ")=OUTSIDE",
                set + "LEAST)=OUTSIDE " + set + "MOST)=OUTSIDE told(" + (10 + which) + ")=" + most);
        }
        Script.due(17, "there are eight", "set(8,1)=OUTSIDE set(-1,1)=OUTSIDE set(MOST,1)=OUTSIDE set(LEAST,1)=OUTSIDE set(10,1)=OUTSIDE");
    }

    private static void damp() {
        Script.due(18, "CELLS are 10", "lap(0,1)=1 damp(0,0,1)=0 damp(0,9,2)=0 damp(0,10,3)=OUTSIDE damp(0,-1,3)=OUTSIDE",
            "damp(0,MOST,3)=OUTSIDE of(0,0)=1 of(0,9)=2");
        Script.due(18, "0 to 1000", "lap(0,1)=1 damp(0,4,1000)=0 damp(0,4,0)=1000 damp(0,4,1001)=OUTSIDE damp(0,4,-1)=OUTSIDE",
            "damp(0,4,LEAST)=OUTSIDE of(0,4)=0");
        Script.due(18, "no such LAP, ahead of OUTSIDE", "lap(0,1)=1 damp(1,10,0)=UNKNOWN damp(-1,0,0)=UNKNOWN damp(6,0,1001)=UNKNOWN");
        Script.due(18, "a LOOSE one, too", "lap(0,0)=1 damp(0,4,7)=0 of(0,4)=7");
        Script.due(18, "each LAP has its own", "lap(0,1)=1 lap(5,1)=1 damp(0,3,9)=0 of(5,3)=0 damp(5,3,8)=0 of(0,3)=9");
    }

    private static void hoursOfDamp() {
        Script.due(19, "SHARE 0: nothing goes", "lap(0,1)=1 set(1,0)=20 set(2,1000)=0 damp(0,5,500)=0 hours(0,1000)=0 of(0,5)=500",
            "of(0,0)=0 of(0,9)=0");
        Script.due(19, "SHARE 50: all goes to both sides", "lap(0,1)=1 set(1,50)=20 damp(0,5,1000)=0 hours(0,1)=0 of(0,5)=0 of(0,4)=500",
            "of(0,6)=500 of(0,3)=0 of(0,7)=0");
        Script.due(19, "AIR ahead of the first, behind the last", "lap(0,1)=1 set(1,50)=20 set(2,1000)=0 hours(0,1)=0 of(0,0)=500",
            "of(0,1)=0 of(0,8)=0 of(0,9)=500");
        Script.due(19, "the first and the last are not side by side", "lap(0,1)=1 set(1,50)=20 damp(0,0,1000)=0 hours(0,1)=0 of(0,0)=0",
            "of(0,1)=500 of(0,9)=0");
        Script.due(19, "all at once", "lap(0,1)=1 set(1,50)=20 set(2,1000)=0 hours(0,2)=0 of(0,0)=500 of(0,1)=250 of(0,2)=0 of(0,7)=0",
            "of(0,8)=250 of(0,9)=500");
        Script.due(19, "cut: less goes", "lap(0,1)=1 damp(0,5,7)=0 hours(0,1)=0 of(0,5)=5 of(0,4)=1 of(0,6)=1");
        Script.due(19, "cut: too little to go", "lap(0,1)=1 damp(0,5,2)=0 hours(0,1000)=0 of(0,5)=2 of(0,4)=0 of(0,6)=0");
        Script.due(19, "cut: just a whole one", "lap(0,1)=1 set(1,1)=20 damp(0,5,50)=0 hours(0,1)=0 of(0,5)=49 of(0,4)=0 hours(0,1)=0",
            "of(0,5)=49 damp(0,1,100)=0 hours(0,1)=0 of(0,1)=98 of(0,0)=1 of(0,2)=1");
        Script.due(19, "it does not go beyond 1000", "lap(0,1)=1 set(1,50)=20 set(2,1000)=0 damp(0,0,1000) damp(0,1,1000) damp(0,2,1000)",
            "hours(0,1)=0 of(0,0)=1000 of(0,1)=1000 of(0,2)=500 of(0,3)=500");
        Script.due(19, "full in the AIR's damp nothing goes", "lap(0,1)=1 set(2,1000)=0 damp(0,0,1000) damp(0,1,1000) damp(0,2,1000)",
            "damp(0,3,1000) damp(0,4,1000) damp(0,5,1000)",
            "damp(0,6,1000) damp(0,7,1000) damp(0,8,1000) damp(0,9,1000) hours(0,1000)=0 of(0,0)=1000 of(0,5)=1000 of(0,9)=1000");
        Script.due(19, "only that LAP", "lap(0,1)=1 lap(1,1)=1 set(2,1000)=0 rate(2,9)=0 hours(0,1)=9 of(0,0)=200 of(1,0)=0 of(1,10)=0");
    }

    private static void hoursOfCure() {
        Script.due(19, "n is 1 to 1000", "lap(0,1)=1 rate(2,1)=0 hours(0,0)=OUTSIDE hours(0,1001)=OUTSIDE hours(0,-1)=OUTSIDE",
            "hours(0,MOST)=OUTSIDE hours(0,LEAST)=OUTSIDE of(0,10)=0 hours(0,1)=1");
        Script.due(19, "1000 HOURS", "lap(0,1)=1 rate(2,1)=0 hours(0,1000)=1000 lap(0,1)=1 hours(0,999)=999 hours(0,1)=1000",
            "hours(0,1)=1000");
        Script.due(19, "CURE is 1000 at most", "lap(0,1)=1 rate(2,99)=0 hours(0,10)=990 hours(0,1)=1000 of(0,10)=1000 rate(2,100)=99",
            "hours(0,1000)=1000");
        Script.due(19, "RATE 100", "lap(0,1)=1 rate(2,100)=0 hours(0,9)=900 hours(0,1)=1000");
        Script.due(19, "RATE 0", "lap(0,1)=1 hours(0,1000)=0 rate(2,5)=0 hours(0,1)=5 rate(2,0)=5 hours(0,1000)=5");
        for (int warmth = 0; warmth < 50; warmth++) {
            Script.due(19, "WARMTH by tens: " + warmth, "lap(0,1)=1 rate(0,1) rate(1,2) rate(2,4) rate(3,8) rate(4,16)",
            "set(3," + warmth + ") hours(0,1)=" + (1 << warmth / 10));
        }
        Script.due(19, "no such LAP, ahead of OUTSIDE", "lap(0,1)=1 hours(1,0)=UNKNOWN hours(-1,1)=UNKNOWN hours(6,1001)=UNKNOWN");
        Script.due(19, "a LOOSE one, too", "lap(0,0)=1 rate(2,3)=0 hours(0,2)=6");
    }

    private static void of() {
        Script.due(20, "CELLS 0 to 9", "lap(0,1)=1 damp(0,0,11) damp(0,1,12) damp(0,8,13) damp(0,9,14) of(0,0)=11 of(0,1)=12 of(0,8)=13",
            "of(0,9)=14 of(0,10)=0");
        Script.due(20, "SPOTS, and those not off: all, some, none",
            "lap(0," + LONGEST + ")=5 of(0,11)=5 of(0,12)=5 glue(0,2,0) of(0,11)=5 of(0,12)=4 lap(0,0/11/0)=2 of(0,11)=2 of(0,12)=0");
        Script.due(20, "what is 0 to 12", "lap(0,1)=1 of(0,13)=OUTSIDE of(0,-1)=OUTSIDE of(0,MOST)=OUTSIDE of(0,LEAST)=OUTSIDE");
        Script.due(20, "no such LAP, ahead of OUTSIDE", "lap(0,1)=1 of(1,13)=UNKNOWN of(-1,0)=UNKNOWN of(6,0)=UNKNOWN of(MOST,0)=UNKNOWN",
            "of(LEAST,0)=UNKNOWN");
    }

    private static void rate() {
        Script.due(21, "tens 0 to 4", "rate(0,7)=0 rate(4,8)=0 rate(5,1)=OUTSIDE rate(-1,1)=OUTSIDE rate(40,1)=OUTSIDE",
            "rate(MOST,1)=OUTSIDE rate(LEAST,1)=OUTSIDE rate(0,0)=7 rate(4,0)=8");
        Script.due(21, "0 to 100", "rate(2,100)=0 rate(2,0)=100 rate(2,101)=OUTSIDE rate(2,-1)=OUTSIDE rate(2,MOST)=OUTSIDE",
            "rate(2,LEAST)=OUTSIDE rate(2,1)=0");
    }

    private static void joint() {
        Script.due(22, "JOINTS 0 to 6", "joint(0,1,0)=0 joint(6,1,0)=0 joint(7,1,0)=UNKNOWN joint(-1,1,0)=UNKNOWN joint(MOST,1,0)=UNKNOWN",
            "joint(LEAST,1,0)=UNKNOWN told(4)=65");
        Script.due(22, "HOURS 1 to 100, 0: there is none", "joint(0,1,0)=0 joint(0,100,0)=1 told(4)=1 joint(0,0,0)=100 told(4)=0",
            "begun(0)=UNKNOWN joint(0,1,0)=0");
        Script.due(22, "HOURS below or above", "joint(0,5,0)=0 joint(0,101,0)=OUTSIDE joint(0,-1,0)=OUTSIDE joint(0,MOST,0)=OUTSIDE",
            "joint(0,LEAST,0)=OUTSIDE best(-1)=5");
        Script.due(22, "needs 0 to 127", "joint(0,5,127)=0 best(-1)=STATE joint(0,5,0)=5 joint(0,5,128)=OUTSIDE joint(0,5,-1)=OUTSIDE",
            "joint(0,5,MOST)=OUTSIDE joint(0,5,LEAST)=OUTSIDE best(-1)=5");
        Script.due(22, "UNKNOWN ahead of OUTSIDE", "joint(7,101,0)=UNKNOWN joint(-1,1,128)=UNKNOWN");
        Script.due(22, "none with wrong needs is OUTSIDE, too", "joint(0,5,0)=0 joint(0,0,128)=OUTSIDE joint(0,0,-1)=OUTSIDE told(4)=1");
        Script.due(22, "what one that is not there needs is nothing to others", "joint(3,0,127)=0 told(4)=0 best(-1)=0 joint(0,2,0)=0",
            "best(-1)=2 best(0)=0 best(1)=NONE");
        Script.due(22, "one that was there and is no more needs nothing", "joint(3,4,8)=0 best(-1)=STATE joint(3,0,8)=4 best(-1)=0");
    }

    private static void best() {
        Script.due(23, "of none END is 0", "best(-1)=0 best(0)=NONE best(1)=NONE best(6)=NONE");
        Script.due(23, "of one", "joint(4,100,0)=0 best(-1)=100 best(0)=4 best(1)=NONE");
        Script.due(23, "behind the last one: NONE", "joint(0,1,0) joint(1,1,0) best(1)=1 best(2)=NONE best(7)=NONE best(MOST)=NONE");
        Script.due(23, "ahead of -1: NONE", "joint(0,1,0) best(-2)=NONE best(LEAST)=NONE");
        Script.due(23, "of all seven", "joint(0,1,0) joint(1,1,0) joint(2,1,0) joint(3,1,0) joint(4,1,0) joint(5,1,0) joint(6,1,0)",
            "best(-1)=7 best(6)=6 best(7)=NONE");
        Script.due(23, "the greatest END", "joint(0,100,0) joint(1,100,0) joint(2,100,0) joint(3,100,0) joint(4,100,0) joint(5,100,0)",
            "joint(6,100,0) best(-1)=700 begun(6)=600",
            "set(4,2) best(-1)=400 begun(6)=300 set(4,3) best(-1)=300 begun(6)=200 begun(5)=100 begun(2)=0");
        Script.due(23, "STATE: one leans on itself", "joint(6,1,64)=0 best(-1)=STATE best(0)=STATE begun(6)=STATE");
        Script.due(23, "STATE: a ring of two", "joint(0,1,2) joint(1,1,1) best(-1)=STATE best(0)=STATE joint(1,1,0)=1 best(-1)=2",
            "best(0)=1");
        Script.due(23, "STATE: a ring of seven", "joint(0,1,2) joint(1,1,4) joint(2,1,8) joint(3,1,16) joint(4,1,32) joint(5,1,64)",
            "joint(6,1,1) best(-1)=STATE joint(6,1,0) best(-1)=7 best(0)=6 best(6)=0 begun(0)=6");
        Script.due(23, "STATE: a ring beside others that could be cured", "joint(0,1,0) joint(1,1,4) joint(2,1,2) best(-1)=STATE",
            "best(0)=STATE begun(0)=STATE");
        Script.due(23, "STATE: one leans on one that is not", "joint(0,1,2) best(-1)=STATE joint(1,1,0)=0 best(-1)=2 joint(1,0,0)=1",
            "best(-1)=STATE joint(0,0,0)=1 best(-1)=0");
        Script.due(23, "STATE ahead of NONE", "joint(0,1,1) best(1)=STATE best(-2)=STATE best(99)=STATE");
        Script.due(23, "a chain of seven, backwards", "joint(0,1,2) joint(1,2,4) joint(2,3,8) joint(3,4,16) joint(4,5,32) joint(5,6,64)",
            "joint(6,7,0) best(-1)=28 best(0)=6 best(1)=5 best(2)=4 best(3)=3 best(4)=2 best(5)=1 best(6)=0 set(4,3) best(-1)=28");
    }

    private static void bestOrders() {
        Script.due(23, "of several the first by numbers", "joint(2,5,0) joint(5,5,0) joint(6,5,0) best(-1)=15 best(0)=2 best(1)=5",
            "best(2)=6 set(4,3) best(-1)=5 best(0)=2 best(1)=5 best(2)=6");
        Script.due(23, "the least END ahead of the numbers", "joint(0,1,0) joint(1,1,0) joint(2,2,0) set(4,2) best(-1)=2 best(0)=0",
            "best(1)=2 best(2)=1 begun(0)=0 begun(2)=0 begun(1)=1");
        Script.due(23, "a lesser END by one, with no CLAMP ever free", "set(4,2) joint(0,4,0) joint(1,1,0) joint(2,1,0) joint(3,4,0) best(-1)=5",
            "best(0)=0 best(1)=1 best(2)=3 best(3)=2 begun(0)=0 begun(1)=0 begun(3)=1 begun(2)=4");
        Script.due(23, "not ahead of the one ahead of it", "set(4,2) joint(0,5,0) joint(1,5,1) joint(2,6,0) best(-1)=10 best(0)=0",
            "best(1)=2 best(2)=1 begun(2)=0 begun(1)=5 joint(2,5,0)=6 best(-1)=10 best(0)=0 best(1)=1 best(2)=2 begun(1)=5 begun(2)=5");
        Script.due(23, "as a CLAMP is free: just then", "joint(0,3,0) joint(1,4,0) best(-1)=7 begun(0)=0 begun(1)=3 set(4,2) best(-1)=4",
            "begun(1)=0");
        Script.due(23, "three CLAMPS, and a fourth JOINT", "set(4,3) joint(0,2,0) joint(1,3,0) joint(2,4,0) joint(3,2,0) best(-1)=4",
            "best(3)=3 begun(2)=0 begun(3)=2");
        Script.due(23, "as all that must be are cured", "set(4,3) joint(0,4,0) joint(1,9,0) joint(2,1,3) best(-1)=10 begun(2)=9",
            "joint(2,1,1)=1 best(-1)=9 begun(2)=4");
        Script.due(23, "one needs all six others", "set(4,3) joint(0,1,126) joint(1,1,0) joint(2,1,0) joint(3,1,0) joint(4,1,0)",
            "joint(5,1,0) joint(6,1,0) best(-1)=3 best(0)=1 best(5)=6 best(6)=0 begun(0)=2");
        Script.due(23, "what changes is reckoned anew", "joint(0,5,0) best(-1)=5 joint(0,6,0)=5 best(-1)=6 joint(1,1,0)=0 best(-1)=7",
            "set(4,2)=1 best(-1)=6 set(4,1)=2 best(-1)=7");
    }

    private static void begun() {
        Script.due(24, "the first at 0", "joint(3,9,0) begun(3)=0");
        Script.due(24, "UNKNOWN: no such JOINT", "joint(3,9,0) begun(7)=UNKNOWN begun(-1)=UNKNOWN begun(MOST)=UNKNOWN",
            "begun(LEAST)=UNKNOWN");
        Script.due(24, "UNKNOWN: also there is none", "joint(3,9,0) begun(2)=UNKNOWN begun(4)=UNKNOWN joint(3,0,0)=9 begun(3)=UNKNOWN");
        Script.due(24, "UNKNOWN ahead of STATE", "joint(3,9,8) begun(3)=STATE begun(2)=UNKNOWN begun(7)=UNKNOWN begun(-1)=UNKNOWN");
        Script.due(24, "the latest that can be", "joint(0,100,0) joint(1,100,1) joint(2,100,2) joint(3,100,4) joint(4,100,8)",
            "joint(5,100,16) joint(6,1,32) begun(6)=600 best(-1)=601");
    }

    private static void strip() {
        Script.due(25, "0 to 10000", "strip(0)=0 strip(10000)=1 strip(-1)=OUTSIDE strip(10001)=OUTSIDE strip(MOST)=OUTSIDE",
            "strip(LEAST)=OUTSIDE told(2)=2");
        Script.due(25, "20 at most", "19*strip(5)=18 strip(6)=19 strip(7)=FULL told(2)=20 strips(0)=101/20");
        Script.due(25, "OUTSIDE ahead of FULL", "20*strip(5)=19 strip(-1)=OUTSIDE strip(10001)=OUTSIDE strip(0)=FULL");
        Script.due(25, "barred ones make no room", "20*strip(5)=19 bar(0,true)=0 bar(19,true)=0 strip(5)=FULL told(2)=20");
    }

    private static void bar() {
        Script.due(26, "kept at first", "strip(5)=0 bar(0,false)=0 bar(0,true)=0 bar(0,true)=1 bar(0,false)=1 bar(0,false)=0");
        Script.due(26, "no such STRIP", "bar(0,true)=UNKNOWN strip(5)=0 bar(1,true)=UNKNOWN bar(-1,true)=UNKNOWN bar(MOST,true)=UNKNOWN",
            "bar(LEAST,false)=UNKNOWN strips(0)=5/1");
        Script.due(26, "the last of 20", "20*strip(5)=19 bar(19,true)=0 bar(19,true)=1 bar(20,true)=UNKNOWN bar(18,true)=0");
    }

    private static void strips() {
        Script.due(27, "STATE: there is none", "strips(0)=STATE strips(1)=STATE");
        Script.due(27, "STATE: all are barred", "strip(5)=0 strip(6)=1 bar(0,true) bar(1,true) strips(0)=STATE strips(1)=STATE",
            "bar(1,false) strips(0)=6/1");
        Script.due(27, "of one", "strip(7)=0 strips(0)=7/1 strips(1)=0/1");
        Script.due(27, "0 by 1 for none", "strip(0)=0 strips(0)=0/1 strips(1)=0/1 strip(0)=1 strips(0)=0/1");
        Script.due(27, "all alike: no SPREAD", "20*strip(10000)=19 strips(0)=10000/1 strips(1)=0/1");
        Script.due(27, "the greatest SPREAD", "10*strip(0)=9 10*strip(10000)=19 strips(0)=5000/1 strips(1)=25000000/1");
        Script.due(27, "one of 20 is off", "19*strip(0)=18 strip(10000)=19 strips(0)=500/1 strips(1)=4750000/1");
        Script.due(27, "in lowest terms", "strip(0) strip(0) strip(1) strips(0)=1/3 strips(1)=2/9 strip(1) strips(0)=1/2 strips(1)=1/4");
        Script.due(27, "barred ones do not count", "strip(0) strip(10000) strip(2) bar(1,true) strips(0)=1/1 strips(1)=1/1");
        Script.due(27, "what and part are 0 or 1", "strip(1)=0 strips(2)=OUTSIDE strips(-1)=OUTSIDE strips(0,2)=OUTSIDE",
            "strips(1,-1)=OUTSIDE strips(MOST)=OUTSIDE strips(LEAST)=OUTSIDE");
        Script.due(27, "OUTSIDE ahead of STATE", "strips(2)=OUTSIDE strips(0,2)=OUTSIDE");
    }

    private static void weak() {
        Script.due(28, "of none", "weak()=0");
        Script.due(28, "below LINE, not LINE itself", "strip(999)=0 strip(1000)=1 strip(1001)=2 weak()=1 set(5,1001) weak()=2 set(5,1002)",
            "weak()=3 set(5,999) weak()=0");
        Script.due(28, "LINE 0: none", "strip(0)=0 set(5,0) weak()=0 set(5,1) weak()=1");
        Script.due(28, "LINE 10000", "strip(9999)=0 strip(10000)=1 set(5,10000) weak()=1");
        Script.due(28, "kept ones alone", "strip(1)=0 strip(2)=1 bar(0,true) weak()=1 bar(1,true) weak()=0 bar(0,false) weak()=1");
        Script.due(28, "all of 20, not 12", "20*strip(1)=19 weak()=20");
    }

    private static void odd() {
        Script.due(29, "w is 1 to 19", "strip(1)=0 odd(1)=1/20 odd(19)=19/20 odd(0)=OUTSIDE odd(20)=OUTSIDE odd(-1)=OUTSIDE",
            "odd(MOST)=OUTSIDE odd(LEAST)=OUTSIDE");
        Script.due(29, "part is 0 or 1", "strip(1)=0 odd(1,2)=OUTSIDE odd(1,-1)=OUTSIDE");
        Script.due(29, "STATE: none is kept", "odd(1)=STATE strip(1)=0 bar(0,true) odd(1)=STATE");
        Script.due(29, "OUTSIDE ahead of STATE", "odd(0)=OUTSIDE odd(20)=OUTSIDE odd(1,2)=OUTSIDE");
        Script.due(29, "none WEAK: sure", "strip(1000)=0 odd(1)=1/1 odd(19)=1/1 11*strip(10000)=11 odd(1)=1/1");
        Script.due(29, "all WEAK", "strip(0)=0 strip(0)=1 odd(10)=1/4 odd(1)=1/400 odd(19)=361/400");
        Script.due(29, "as many or more", "strip(0)=0 strip(5000)=1 odd(10)=3/4 odd(1)=39/400");
        Script.due(29, "12 WEAK ones", "12*strip(0)=11 odd(10)=1/4096 odd(1)=1/4096000000000000 odd(19)=2213314919066161/4096000000000000",
            "odd(2)=1/1000000000000");
        Script.due(29, "11 of 12", "11*strip(0)=10 strip(1000)=11 odd(10)=13/4096");
        Script.due(29, "the 13th is not looked at", "12*strip(5000)=11 strip(0)=12 weak()=1 odd(10)=1/1");
        Script.due(29, "the first kept ones are looked at", "12*strip(5000)=11 strip(0)=12 strip(0)=13 bar(0,true) odd(10)=4095/4096",
            "bar(11,true) odd(10)=4083/4096 bar(0,false) odd(10)=4095/4096");
        Script.due(29, "of 20 the first 12", "12*strip(5000)=11 8*strip(0)=19 odd(1)=1/1 weak()=8");
    }

    private static void knock() {
        Script.due(30, "PLACES 0 to 9", "knock(0,1)=NONE knock(9,2)=NONE knock(10,1)=UNKNOWN knock(-1,1)=UNKNOWN knock(MOST,1)=UNKNOWN",
            "knock(LEAST,1)=UNKNOWN knock(0,1)=1 knock(9,2)=2");
        Script.due(30, "SOUND 0 to 9", "knock(0,0)=NONE knock(0,9)=0 knock(0,10)=OUTSIDE knock(0,MOST)=OUTSIDE knock(0,9)=9");
        Script.due(30, "-1: none", "knock(0,5)=NONE knock(0,-1)=5 knock(0,-1)=NONE fit(0)=15 knock(0,-2)=OUTSIDE knock(0,-6)=OUTSIDE",
            "knock(0,LEAST)=OUTSIDE");
        Script.due(30, "UNKNOWN ahead of OUTSIDE", "knock(10,10)=UNKNOWN knock(-1,-2)=UNKNOWN");
    }

    private static void sheet() {
        Script.due(31, "SHEETS 0 to 3", "sheet(0,3)=0 sheet(0,0)=3 sheet(0,4)=OUTSIDE sheet(0,-1)=OUTSIDE sheet(0,MOST)=OUTSIDE",
            "sheet(0,LEAST)=OUTSIDE sheet(0,0)=0");
        Script.due(31, "PLACES 0 to 9", "sheet(9,2)=0 sheet(10,1)=UNKNOWN sheet(-1,1)=UNKNOWN sheet(MOST,1)=UNKNOWN",
            "sheet(LEAST,1)=UNKNOWN sheet(9,1)=2");
        Script.due(31, "UNKNOWN ahead of OUTSIDE", "sheet(10,4)=UNKNOWN sheet(-1,-1)=UNKNOWN");
        Script.due(31, "one for each PLACE", "sheet(0,1)=0 sheet(1,0)=0 sheet(9,3)=0 sheet(0,0)=1 sheet(9,0)=3");
    }

    private static void table() {
        Script.due(32, "SHEETS 0 to 3", "table(0,0,1)=0 table(3,0,2)=0 table(4,0,1)=OUTSIDE table(-1,0,1)=OUTSIDE table(MOST,0,1)=OUTSIDE",
            "table(LEAST,0,1)=OUTSIDE table(0,0,0)=1 table(3,0,0)=2");
        Script.due(32, "GAPS 0 to 3", "table(0,3,5)=0 table(0,4,1)=OUTSIDE table(1,-1,1)=OUTSIDE table(0,MOST,1)=OUTSIDE",
            "table(0,LEAST,1)=OUTSIDE table(0,3,0)=5 table(1,0,0)=0");
        Script.due(32, "SOUNDS 0 to 9", "table(2,1,9)=0 table(2,1,0)=9 table(2,1,10)=OUTSIDE table(2,1,-1)=OUTSIDE",
            "table(2,1,MOST)=OUTSIDE table(2,1,LEAST)=OUTSIDE table(2,1,0)=0");
        Script.due(32, "the last of all", "table(3,3,9)=0 table(3,3,8)=9");
    }

    private static void fit() {
        Script.due(33, "no SOUND: all", "fit(0)=15 fit(9)=15 table(0,0,1) table(0,1,2) fit(0)=15");
        Script.due(33, "all sound alike: all", "knock(0,0)=NONE fit(0)=15");
        Script.due(33, "no GAP sounds so: none", "knock(0,1)=NONE fit(0)=0");
        Script.due(33, "the first, the last GAP", "table(0,0,9) table(0,3,8) knock(0,9) fit(0)=1 knock(0,8) fit(0)=8 knock(0,0) fit(0)=6");
        Script.due(33, "by the PLACE's own SHEET", "table(3,2,5) knock(9,5) fit(9)=0 sheet(9,3) fit(9)=4 sheet(9,2) fit(9)=0");
        Script.due(33, "UNKNOWN", "fit(10)=UNKNOWN fit(-1)=UNKNOWN fit(MOST)=UNKNOWN fit(LEAST)=UNKNOWN");
    }

    private static void fits() {
        Script.due(34, "STEP 3: all rows", "fits()=1048576");
        Script.due(34, "STEP 2, 1, 0", "set(6,2) fits()=363314 set(6,1) fits()=21892 set(6,0) fits()=4");
        Script.due(34, "none at one PLACE: no row", "knock(9,1)=NONE fits()=0 knock(9,-1)=1 fits()=1048576 knock(0,1)=NONE fits()=0");
        Script.due(34, "one row", "table(0,2,7) knock(4,7) set(6,0) fits()=1");
        Script.due(34, "differ by no more than STEP: just by STEP", "table(0,1,1) table(0,2,2) table(0,3,3) knock(0,0) knock(1,2)",
            "set(6,2) knock(2,0) knock(3,2) knock(4,0) knock(5,2) knock(6,0) knock(7,2) knock(8,0) knock(9,2) fits()=1 set(6,1) fits()=0");
        Script.due(34, "the first and the last PLACE are not side by side", "table(0,1,1) table(0,2,2) table(0,3,3) knock(0,0) knock(9,3)",
            "set(6,1) fits()=771 set(6,0) fits()=0");
    }

    private static void sure() {
        Script.due(35, "several: NONE", "sure(0)=NONE sure(9)=NONE");
        Script.due(35, "GAP 0 and GAP 3", "table(0,0,5) table(0,3,6) knock(0,5) knock(9,6) sure(0)=0 sure(9)=3 sure(1)=NONE");
        Script.due(35, "no row: NONE, though its own FIT is one", "table(0,0,5) knock(0,5) knock(9,9) fit(0)=1 sure(0)=NONE sure(9)=NONE",
            "sure(5)=NONE");
        Script.due(35, "STEP 0: known at all PLACES", "table(0,3,5) knock(5,5) set(6,0) sure(0)=3 sure(4)=3 sure(5)=3 sure(6)=3 sure(9)=3",
            "set(6,1) sure(5)=3 sure(4)=NONE sure(6)=NONE");
        Script.due(35, "known from the first, from the last PLACE", "table(0,3,5) set(6,0) knock(0,5) sure(1)=3 sure(9)=3 knock(0,-1)=5",
            "sure(9)=NONE knock(9,5) sure(0)=3 sure(8)=3");
        Script.due(35, "the first, the last PLACE leaves no row", "table(0,3,5) knock(5,5) sure(5)=3 knock(0,9) sure(5)=NONE",
            "knock(0,-1)=9 sure(5)=3 knock(9,9) sure(5)=NONE");
        Script.due(35, "known from both sides", "table(0,1,1) table(0,2,2) table(0,3,3) knock(2,0) knock(5,3) set(6,1) sure(3)=1",
            "sure(4)=2 sure(1)=NONE sure(6)=NONE");
        Script.due(35, "one of two that FIT falls away", "table(0,0,1) table(0,3,1) knock(4,1) fit(4)=9 sure(4)=NONE table(1,1,1)",
            "sheet(5,1) knock(5,1) sure(5)=1 set(6,1) sure(4)=0");
        Script.due(35, "UNKNOWN", "sure(10)=UNKNOWN sure(-1)=UNKNOWN sure(MOST)=UNKNOWN sure(LEAST)=UNKNOWN");
    }

    private static void unseen() {
        Script.due(36, "all alike", "unseen(0)=6 unseen(3)=6");
        Script.due(36, "three, two and two, two, none alike", "table(0,3,1) unseen(0)=3 table(0,2,1) unseen(0)=2 table(0,2,2) unseen(0)=1",
            "table(0,1,9) unseen(0)=0");
        Script.due(36, "the first and the last GAP", "table(3,0,4) table(3,1,5) table(3,2,6) table(3,3,4) unseen(3)=1 unseen(2)=6");
        Script.due(36, "OUTSIDE", "unseen(4)=OUTSIDE unseen(-1)=OUTSIDE unseen(MOST)=OUTSIDE unseen(LEAST)=OUTSIDE");
    }

    private static void choice() {
        Script.due(37, "KINDS 0 to 3", "choice(0,1,1,1)=0 choice(3,1,1,1)=1 choice(4,1,1,1)=UNKNOWN choice(-1,1,1,1)=UNKNOWN",
            "choice(MOST,1,1,1)=UNKNOWN choice(LEAST,1,1,1)=UNKNOWN told(3)=2");
        Script.due(37, "PRICE 0 to 1000", "choice(0,0,1,1)=0 choice(0,1000,1,1)=1 choice(0,1001,1,1)=OUTSIDE choice(0,-1,1,1)=OUTSIDE",
            "choice(0,MOST,1,1)=OUTSIDE choice(0,LEAST,1,1)=OUTSIDE told(3)=2");
        Script.due(37, "HOLDS 0 to 10000", "choice(0,1,0,1)=0 choice(0,1,10000,1)=1 choice(0,1,10001,1)=OUTSIDE choice(0,1,-1,1)=OUTSIDE",
            "choice(0,1,MOST,1)=OUTSIDE choice(0,1,LEAST,1)=OUTSIDE told(3)=2");
        Script.due(37, "SHOWS 0 to 10000", "choice(0,1,1,0)=0 choice(0,1,1,10000)=1 choice(0,1,1,10001)=OUTSIDE choice(0,1,1,-1)=OUTSIDE",
            "choice(0,1,1,MOST)=OUTSIDE choice(0,1,1,LEAST)=OUTSIDE told(3)=2");
        Script.due(37, "12 at most", "11*choice(0,1,1,1)=10 choice(0,0,1,0)=11 choice(0,0,1,0)=FULL told(3)=12 cheapest(1,-1)=11");
        Script.due(37, "UNKNOWN, OUTSIDE, FULL in this order", "choice(4,-1,1,1)=UNKNOWN 12*choice(0,1,1,1)=11 choice(4,1,1,1)=UNKNOWN",
            "choice(0,-1,1,1)=OUTSIDE choice(0,1,1,10001)=OUTSIDE choice(0,1,1,1)=FULL");
    }

    private static void cheapest() {
        Script.due(38, "there is none", "cheapest(0,-1)=NONE cheapest(0,2)=NONE");
        Script.due(38, "HOLDS it: just the load", "choice(0,5,700,0)=0 cheapest(700,-1)=0 cheapest(701,-1)=NONE cheapest(699,-1)=0",
            "cheapest(0,-1)=0");
        Script.due(38, "a load of 0 and of 10000", "choice(0,5,0,0)=0 cheapest(0,-1)=0 cheapest(1,-1)=NONE choice(0,9,10000,8000)=1",
            "cheapest(10000,-1)=1 cheapest(0,-1)=0");
        Script.due(38, "a MARGIN or more: just a MARGIN", "choice(0,5,1000,800)=0 cheapest(0,-1)=0 set(7,21) cheapest(0,-1)=NONE",
            "set(7,19) cheapest(0,-1)=0");
        Script.due(38, "one less than a MARGIN", "choice(0,5,1000,801)=0 cheapest(0,-1)=NONE");
        Script.due(38, "a MARGIN is cut", "choice(0,5,99,80)=0 cheapest(0,-1)=0 choice(1,5,99,81)=1 cheapest(0,1)=NONE choice(2,5,4,4)=2",
            "cheapest(0,2)=2 choice(3,5,5,5)=3 cheapest(0,3)=NONE");
        Script.due(38, "MARGIN 0: what it HOLDS itself, and no more", "set(7,0) choice(0,5,700,700)=0 cheapest(0,0)=0",
            "choice(1,5,700,701)=1 cheapest(0,1)=NONE");
        Script.due(38, "MARGIN 100: seen by no load", "set(7,100) choice(0,5,700,0)=0 cheapest(0,0)=0 choice(1,5,700,1)=1",
            "cheapest(0,1)=NONE choice(2,5,0,0)=2 cheapest(0,2)=2");
        Script.due(38, "it HOLDS nothing and SHOWS late", "choice(0,0,0,1)=0 set(7,0) cheapest(0,-1)=NONE choice(0,0,0,10000)=1",
            "cheapest(0,-1)=NONE");
        Script.due(38, "the cheapest and the dearest", "choice(0,1000,500,0)=0 cheapest(500,-1)=0 choice(0,999,500,0)=1",
            "cheapest(500,-1)=1 choice(0,0,500,0)=2 cheapest(500,-1)=2");
        Script.due(38, "of several the first", "choice(0,7,500,0)=0 choice(1,7,500,0)=1 choice(2,6,500,0)=2 choice(3,6,900,0)=3",
            "cheapest(0,-1)=2 cheapest(0,0)=0 cheapest(600,-1)=3");
        Script.due(38, "of a KIND, or any", "choice(3,1,500,0)=0 choice(0,9,500,0)=1 cheapest(0,0)=1 cheapest(0,3)=0 cheapest(0,1)=NONE",
            "cheapest(0,-1)=0");
        Script.due(38, "KINDS -1 to 3", "choice(3,1,500,0)=0 cheapest(0,4)=UNKNOWN cheapest(0,-2)=UNKNOWN cheapest(0,MOST)=UNKNOWN",
            "cheapest(0,LEAST)=UNKNOWN");
        Script.due(38, "a load is 0 to 10000", "choice(3,1,500,0)=0 cheapest(-1,-1)=OUTSIDE cheapest(10001,-1)=OUTSIDE",
            "cheapest(MOST,3)=OUTSIDE cheapest(LEAST,3)=OUTSIDE");
        Script.due(38, "UNKNOWN ahead of OUTSIDE", "cheapest(-1,4)=UNKNOWN cheapest(10001,-2)=UNKNOWN");
    }

    private static final String CURED = "lap(0,1)=1 rate(2,100)=0 hours(0,10)=1000 ";

    private static void ledStrength() {
        Script.due(39, "all at their best: BASE", CURED + "led(0,10000,100,0,0,0)=10000 led(0,1,100,0,0,0)=1");
        Script.due(39, "BASE 0, CLEAN 0", CURED + "led(0,0,100,0,0,0)=0 led(0,10000,0,0,0,0)=0");
        Script.due(39, "CURE 0", "lap(0,1)=1 led(0,10000,100,10000,10000,0)=0");
        Script.due(39, "DAMP 1000", CURED + "damp(0,9,1000)=0 led(0,10000,100,0,0,0)=0 damp(0,9,999)=1000 led(0,10000,100,0,0,0)=10",
            "led(0,999,100,0,0,0)=0");
        Script.due(39, "the greatest DAMP: of the first CELL, of the last one", CURED + "damp(0,0,500)=0 damp(0,5,499)=0",
            "led(0,1000,100,0,0,0)=500 damp(0,9,501)=0 led(0,1000,100,0,0,0)=499");
        Script.due(39, "cut each, in this order", "lap(0,1)=1 rate(2,100)=0 hours(0,5)=500 damp(0,0,500)=0 led(0,199,50,0,0,0)=24",
            "led(0,199,99,0,0,0)=49 led(0,3,50,0,0,0)=0");
        Script.due(39, "base 0 to 10000", CURED + "led(0,-1,0,0,0,0)=OUTSIDE led(0,10001,0,0,0,0)=OUTSIDE led(0,MOST,0,0,0,0)=OUTSIDE",
            "led(0,LEAST,0,0,0,0)=OUTSIDE");
        Script.due(39, "clean 0 to 100", CURED + "led(0,0,-1,0,0,0)=OUTSIDE led(0,0,101,0,0,0)=OUTSIDE led(0,0,MOST,0,0,0)=OUTSIDE",
            "led(0,0,LEAST,0,0,0)=OUTSIDE");
        Script.due(39, "loads 0 to 10000", CURED + "led(0,0,0,-1,0,0)=OUTSIDE led(0,0,0,10001,0,0)=OUTSIDE led(0,0,0,0,-1,0)=OUTSIDE",
            "led(0,0,0,0,10001,0)=OUTSIDE led(0,0,0,10000,10000,0)=0");
        Script.due(39, "what 0 or 1", CURED + "led(0,0,0,0,0,2)=OUTSIDE led(0,0,0,0,0,-1)=OUTSIDE led(0,0,0,0,0,MOST)=OUTSIDE");
        Script.due(39, "UNKNOWN ahead of OUTSIDE", CURED + "led(1,-1,101,-1,-1,2)=UNKNOWN led(-1,0,0,0,0,0)=UNKNOWN",
            "led(6,0,0,0,0,0)=UNKNOWN");
        Script.due(39, "a LOOSE LAP, too", "lap(0,0)=1 rate(2,100)=0 hours(0,10)=1000 led(0,700,100,0,0,0)=700");
    }

    private static void ledCauses() {
        Script.due(39, "no load at all: no cause", "lap(0,1)=1 damp(0,0,1000)=0 led(0,0,0,0,0,1)=0");
        Script.due(39, "the STRENGTH is below the load: not the load itself", CURED + "led(0,1000,50,500,500,1)=0",
            "led(0,1000,50,501,501,1)=1 led(0,1000,49,500,500,1)=1");
        Script.due(39, "CURE just enough", "lap(0,1)=1 rate(2,100)=0 hours(0,5)=500 led(0,1000,100,500,500,1)=0",
            "led(0,1000,100,501,501,1)=2");
        Script.due(39, "DAMP just enough", CURED + "damp(0,9,500)=0 led(0,1000,100,500,500,1)=0 led(0,1000,100,501,501,1)=4");
        Script.due(39, "LOAD just enough", CURED + "led(0,1000,100,1000,500,1)=0 led(0,1000,100,1001,500,1)=8 led(0,1000,100,999,500,1)=0");
        Script.due(39, "LOAD is a cause only above the load it was made for", CURED + "led(0,1000,100,1001,1001,1)=7",
            "led(0,1000,100,1002,1001,1)=15 led(0,1000,100,1001,1002,1)=7");
        Script.due(39, "others by the load it was made for", CURED + "led(0,1000,50,10000,500,1)=8 led(0,1000,50,0,501,1)=1");
        Script.due(39, "two together, neither alone", "lap(0,1)=1 rate(2,80)=0 hours(0,10)=800 led(0,1000,80,700,700,0)=640",
            "led(0,1000,80,700,700,1)=0");
        Script.due(39, "all four alone", "lap(0,1)=1 damp(0,3,1000)=0 led(0,1000,0,10000,1,1)=15 led(0,10000,0,10000,1,1)=7");
        Script.due(39, "not BASE: each at its best is below as well", CURED + "led(0,0,100,10000,1,1)=15 led(0,0,100,1,1,1)=7");
    }

    private static void told() {
        Script.due(40, "what is 0 to 4, 10 to 17", "told(-1)=OUTSIDE told(5)=OUTSIDE told(6)=OUTSIDE told(9)=OUTSIDE told(18)=OUTSIDE",
            "told(MOST)=OUTSIDE told(LEAST)=OUTSIDE");
        Script.due(40, "signs: none, all", "told(0)=0 40*say(48)=40 told(0)=40 say(48)=FULL told(0)=40");
        Script.due(40, "LAPS: none, all", "told(1)=0 lap(5,0) told(1)=32 lap(0,0) told(1)=33 lap(1,0) lap(2,0) lap(3,0) lap(4,0)",
            "told(1)=63 lap(4,1) told(1)=63");
        Script.due(40, "a LOOSE LAP is there, too", "lap(2,0)=1 told(1)=4");
        Script.due(40, "STRIPS: none, all, barred ones too", "told(2)=0 20*strip(1)=19 told(2)=20 bar(3,true)=0 told(2)=20");
        Script.due(40, "CHOICES: none, all", "told(3)=0 12*choice(0,0,0,0)=11 told(3)=12");
        Script.due(40, "JOINTS: none, all", "told(4)=0 joint(6,1,0) told(4)=64 joint(0,1,0) joint(1,1,0) joint(2,1,0) joint(3,1,0)",
            "joint(4,1,0) joint(5,1,0) told(4)=127 joint(0,0,0) told(4)=126");
        Script.due(40, "the first and the last of what set() sets", "set(0,1) told(10)=1 set(7,0) told(17)=0 set(0,2)=1 set(7,3)=0",
            "told(10)=2 told(17)=3");
    }

    private static void longRuns() {
        Script.due(40, "the 512th call still counts", "505*say(49)=FULL wipe()=40 4*say(49)=4 wipe()=4 told(0)=0");
        Script.due(19, "the 512th call still counts", "lap(0,1)=1 set(3,0)=20 rate(0,1)=0 506*hours(0,1)=506 of(0,10)=506");
    }
}

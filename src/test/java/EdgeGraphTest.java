/** The boundary cases that PART 2 and promises 5 to 8, 16 to 19 name; see Due for what the lines mean. */
public final class EdgeGraphTest {
    public static void main(String[] arguments) {
        emptyBodies();
        backWays();
        weights();
        paths();
        asked();
        weighed();
        Due.end("EdgeGraphTest");
    }

    private static void emptyBodies() {
        Due.play("FIRST of a body without any statement: what would be NEXT of a last one: if in while", """
            text `a(){while(1){if(1){}}}` = 1
            member(0, *) = 0 0 0 5 7 1 10 5
            ways(0) = 0 3 0 0 1 0 / 3 4 1 0 10 0 / 3 1 2 0 1 1 / 3 2 3 0 0 1 / 4 3 1 1 10 1 / 4 3 2 1 10 1 / 4 2 3 0 0 1
            """);
        Due.play("FIRST of a body without any statement: of a lock its UNLOCK, in a for its TURN", """
            text `a(){for i=1 to 2{lock 1{}}}` = 1
            nodes(0) = 0 0 0 / 1 0 0 / 2 0 0 / 7 4 0 / 8 4 1 / 12 17 1 / 13 24 1
            ways(0) = 0 3 0 0 1 0 / 3 4 0 0 1 0 / 3 2 3 0 0 1 / 4 5 1 0 10 0 / 4 1 2 0 1 1 / 5 6 0 0 10 0 / 5 2 3 0 0 1 / 6 4 0 1 10 1
            """);
        Due.play("FIRST of a try is the FIRST of its body: of an empty one NEXT of the whole try", """
            text `a(){while(1){try{}catch e{}}}` = 1
            ways(0) = 0 3 0 0 1 0 / 3 3 1 1 10 1 / 3 1 2 0 1 1 / 3 2 3 0 0 1 / 4 3 0 1 10 0
            text `a(){try{try{}catch e{}x=1;}catch e{}}` = 1
            ways(0) = 0 4 0 0 1 0 / 3 4 0 0 1 0 / 4 1 0 0 1 1 / 4 5 3 0 0 1 / 5 1 0 0 1 0
            text `a(){try{}catch e{}x=1;}` = 1
            ways(0) = 0 4 0 0 1 0 / 3 4 0 0 1 0 / 4 1 0 0 1 1 / 4 2 3 0 0 1
            """);
        Due.play("FIRST of an empty body in a lock's else: the lock's UNLOCK", """
            text `a(){lock 1{if(1){}else{try{}catch e{}}}}` = 1
            ways(0) = 0 3 0 0 1 0 / 3 4 0 0 1 0 / 3 2 3 0 0 1 / 4 6 1 0 1 0 / 4 6 2 0 1 1 / 4 2 3 0 0 1 / 5 6 0 0 1 0 / 6 1 0 0 1 1
            """);
        Due.play("FIRST of an empty member: END; of one with an empty try, too", """
            text `a(){}b(){try{}catch e{}}c(){try{try{}catch e{}}catch f{}}` = 3
            ways(0) = 0 1 0 0 1 1
            ways(1) = 0 1 0 0 1 1 / 3 1 0 0 1 0
            ways(2) = 0 1 0 0 1 1 / 3 1 0 0 1 0 / 4 1 0 0 1 0
            """);
    }

    private static void backWays() {
        Due.play("BACK: to a while's TEST or a for's TURN from a node in that one's body, or from itself", """
            text `a(){while(1){for i=1 to 2{}}}` = 1
            ways(0) = 0 3 0 0 1 0 / 3 4 1 0 10 0 / 3 1 2 0 1 1 / 3 2 3 0 0 1 / 4 5 0 0 10 0 / 4 2 3 0 0 1 / 5 5 1 1 100 1 / 5 3 2 1 10 1
            text `a(){while(1){}while(1){}}` = 1
            ways(0) = 0 3 0 0 1 0 / 3 3 1 1 10 1 / 3 4 2 0 10 0 / 3 2 3 0 0 1 / 4 4 1 1 10 1 / 4 1 2 0 1 1 / 4 2 3 0 0 1
            text `a(){for i=1 to 2{while(1){break;}}}` = 1
            ways(0) = 0 3 0 0 1 0 / 3 4 0 0 1 0 / 3 2 3 0 0 1 / 4 5 1 0 10 0 / 4 1 2 0 1 1 / 5 6 1 0 100 0 / 5 4 2 1 10 1 / 5 2 3 0 0 1 / 6 4 0 1 10 1
            """);
        Due.play("A loop's node that no way comes to BACK: PATHS from it are counted, too", """
            text `a(){for i=1 to 2{return i;}}` = 1
            member(0, *) = 0 0 1 6 7 1 7 4
            ways(0) = 0 3 0 0 1 0 / 3 4 0 0 1 0 / 3 2 3 0 0 1 / 4 5 1 0 10 0 / 4 1 2 0 1 1 / 5 1 0 0 1 1 / 5 2 3 0 0 1
            paths(0) = 4 0 1 3 5 / 4 0 1 3 6 / 3 0 1 4 / 2 0 2 / 2 3 5 / 2 3 6 / 1 4
            begin(0, 0, 0, 0) = 1
            run(9) = 3
            gone(0, *) = 1 0 0 0 0 0 0 -1
            text `a(){while(1){throw 1;}}` = 1
            paths(0) = 3 0 1 4 / 2 0 2 / 2 0 3 / 2 1 4 / 1 2 / 1 3
            """);
        Due.play("BREAK: to NEXT of the innermost loop, which is another one's TEST, UNLOCK, END", """
            text `a(){lock 1{while(1){while(1){break;}break;}}}` = 1
            ways(0) = 0 3 0 0 1 0 / 3 4 0 0 1 0 / 3 2 3 0 0 1 / 4 5 1 0 10 0 / 4 8 2 0 1 0 / 4 2 3 0 0 1 / 5 6 1 0 100 0 / 5 7 2 0 10 0 / 5 2 3 0 0 1 / 6 7 0 0 10 1 / 7 8 0 0 1 1 / 8 1 0 0 1 1
            """);
        Due.play("By failure: to the CATCH of the innermost try in whose first body it stands, else to FAILED", """
            text `a(){try{x=1;try{x=2;}catch e{x=3;}x=4;}catch f{x=5;try{}catch g{x=6;}}x=7;}` = 1
            ways(0) = 0 3 0 0 1 0 / 3 4 0 0 1 0 / 3 8 3 0 0 1 / 4 7 0 0 1 0 / 4 5 3 0 0 1 / 5 6 0 0 1 0 / 6 7 0 0 1 0 / 6 8 3 0 0 1 / 7 12 0 0 1 0 / 7 8 3 0 0 1 / 8 9 0 0 1 0 / 9 12 0 0 1 0 / 9 2 3 0 0 1 / 10 11 0 0 1 0 / 11 12 0 0 1 0 / 11 2 3 0 0 1 / 12 1 0 0 1 1 / 12 2 3 0 0 1
            """);
    }

    private static void weights() {
        Due.play("WEIGHT: 10 to the power of the lesser DEPTH of its two nodes (at most 9)", """
            text `a(){while(1){while(1){while(1){while(1){while(1){while(1){while(1){while(1){while(1){while(1){while(1){}}}}}}}}}}}}` = 1
            node(0, 3, 2) = 1
            node(0, 11, 2) = 9
            node(0, 12, 2) = 10
            node(0, 13, 2) = 11
            way(0, 0, 4) = 1
            way(0, 1, 4) = 10
            way(0, 19, 4) = 10000000
            way(0, 22, 4) = 100000000
            way(0, 25, 4) = 1000000000
            way(0, 28, 4) = 1000000000
            way(0, 31, *) = 13 13 1 1 1000000000 1
            way(0, 32, *) = 13 12 2 1 1000000000 1
            way(0, 26, *) = 11 10 2 1 100000000 1
            way(0, 33, *) = 13 2 3 0 0 1
            """);
        Due.play("DEPTH: a BEGIN is not in its own", """
            text `a(){for i=1 to 2{for j=1 to 2{x=1;}}}` = 1
            nodes(0) = 0 0 0 / 1 0 0 / 2 0 0 / 7 4 0 / 8 4 1 / 7 17 1 / 8 17 2 / 3 30 2
            weights(0) = 1 0 / 1 0 / 0 1 / 10 0 / 1 1 / 10 0 / 0 1 / 100 0 / 10 1 / 100 1 / 0 1
            """);
        Due.play("PROBES: by weight, the greatest first, of several the least number; those of failure last", """
            text `a(){if(1){x=1;}else{x=2;}try{throw 1;}catch e{}}` = 1
            ways(0) = 0 3 0 0 1 0 / 3 4 1 0 1 0 / 3 5 2 0 1 0 / 3 2 3 0 0 1 / 4 6 0 0 1 0 / 4 2 3 0 0 1 / 5 6 0 0 1 1 / 5 2 3 0 0 1 / 6 7 3 0 0 1 / 7 1 0 0 1 0
            begin(0, 0, 0, 0) = 1
            run(9) = 4
            state(6) = 1
            weigh(1) = 1
            weights(0) = 1 0 / 1 0 / 0 0 / 0 1 / 1 0 / 0 1 / 0 1 / 0 1 / 1 0 / 1 1
            """);
    }

    private static void paths() {
        Due.play("A member with more than 1,000,000 has no NUMBERS: those from ENTRY and from the loop together", """
            text `a(){while(1){$18[if(1){}$]}}` = 1
            member(0, 6) = -1
            path(0, 0, -1) = -1
            path(0, 0, 0) = -1
            begin(0, 0, 0, 0) = 1
            run(100) = 100
            gone(0, 0) = -1
            most(0, 0) = -1
            text `a(){while(1){$17[if(1){}$]}}` = 1
            member(0, 6) = 524290
            path(0, 524289, *) = 3 -1
            path(0, 262144, *) = 0 3 -1
            path(0, 262145, -1) = 18
            path(0, 262145, *) = 1 4 7 10 13 16
            path(0, 524287, -1) = 2
            path(0, 524287, *) = 1 6 -1
            path(0, 524288, *) = 2 -1
            path(0, 524290, -1) = -1
            begin(0, 0, 0, 0) = 1
            run(18) = 18
            gone(0, 0) = 1
            run(18) = 18
            gone(0, 262145) = 1
            gone(0, 524289) = 0
            gone(0, 524290) = -1
            most(0, *) = 0 262145 -1
            """);
        Due.play("A member with more than 1,000,000 has no NUMBERS: exactly so many it has, one more not, others still do", """
            text `a(){x=1;$6[if(1){}$]x=1;$3[if(1){}$]x=1;$5[if(1){}$]x=1;$2[if(1){}$]x=1;if(1){}x=1;if(1){}x=1;}b(){x=1;}` = 2
            member(0, 6) = 1000000
            member(1, 6) = 2
            path(0, 999999, *) = 0 2 -1
            path(0, 1000000, -1) = -1
            text `a(){x=1;x=1;$6[if(1){}$]x=1;$3[if(1){}$]x=1;$5[if(1){}$]x=1;$2[if(1){}$]x=1;if(1){}x=1;if(1){}x=1;}b(){x=1;}` = 2
            member(0, 6) = -1
            path(0, 0, -1) = -1
            member(1, 6) = 2
            path(1, 1, *) = 0 2 -1
            begin(0, 0, 0, 0) = 1
            run(20000) = 26
            gone(0, 0) = -1
            most(0, 0) = -1
            gone(1, 0) = 0
            begin(1, 0, 0, 0) = 1
            run(20000) = 1
            most(1, *) = 0 -1
            """);
        Due.play("PATHS: up to the first BACK way, or way to END or FAILED, that one too", """
            text `a(p){while(p){p=p-1;}x=1/0;}` = 1
            paths(0) = 3 0 1 4 / 3 0 1 5 / 3 0 2 6 / 3 0 2 7 / 2 0 3 / 2 1 4 / 2 1 5 / 2 2 6 / 2 2 7 / 1 3
            argument(0, 2) = 0
            begin(0, 0, 0, 0) = 1
            run(1) = 1
            gone(0, *) = 0 0 0 0 0 0 0 0 0 0 -1
            run(1) = 1
            gone(0, *) = 1 0 0 0 0 0 0 0 0 0
            run(2) = 2
            gone(0, *) = 1 0 0 0 0 1 0 0 0 0
            run(9) = 2
            gone(0, *) = 1 0 0 0 0 1 0 0 1 0
            most(0, *) = 0 5 8 -1
            """);
    }

    private static void asked() {
        Due.play("Promises 5, 6, 7, 18: NONE for others", """
            outside member(0..-1, 0..7) = -1
            text `a(p){while(p){p=p-1;}}b(){}` = 2
            outside member(0..1, 0..7) = -1
            outside node(0..1, 0..4, 0..2) = -1
            outside way(0..1, 0..5, 0..5) = -1
            outside path(0..1, 0..7, -1..2) = -1
            member(0, *) = 0 1 1 5 6 1 8 4 -1
            member(1, *) = 22 0 0 3 1 0 1 1 -1
            node(0, 4, *) = 3 14 1 -1
            way(0, 5, *) = 4 2 3 0 0 1 -1
            node(1, 2, *) = 2 22 0 -1
            node(1, 3, 0) = -1
            way(1, 0, *) = 0 1 0 0 1 1 -1
            way(1, 1, 0) = -1
            path(0, 7, *) = 3 -1
            path(1, 0, *) = 0 -1
            path(1, 1, 0) = -1
            """);
        Due.play("Promises 16, 17, 19: NONE if there is none such, or no run; most: if less than k and 1 were gone", """
            text `a(p){while(p){p=p-1;}}b(){}` = 2
            count(0, 0) = -1
            gone(0, 0) = -1
            most(0, 0) = -1
            argument(0, 3) = 0
            begin(0, 0, 0, 0) = 1
            outside count(0..1, 0..5) = -1
            outside gone(0..1, 0..7) = -1
            outside most(0..0, 0..-1) = -1
            count(0, *) = 1 0 0 0 0 0 -1
            count(1, *) = 0 -1
            most(1, *) = -1 -1
            run(20000) = 7
            outside count(0..1, 0..5) = -1
            outside gone(0..1, 0..7) = -1
            outside most(0..0, 0..2) = -1
            count(0, *) = 1 3 1 0 3 0 -1
            gone(0, *) = 1 0 0 0 2 0 1 0 -1
            gone(1, *) = 0 -1
            most(0, *) = 4 0 6 -1
            most(1, *) = -1 -1
            text `a(p){while(p){p=p-1;}}b(){}` = 2
            count(0, 0) = -1
            gone(0, 0) = -1
            most(0, 0) = -1
            path(0, 0, -1) = 3
            """);
        Due.play("Promises 17, 19: the first NUMBERS and the last ones of several members, each gone", """
            text `a(p){try{b(p);}catch e{}if(p=0){}x=1/p;}b(p){if(p){x=p/(p-1);}}` = 2
            paths(1) = 3 0 1 4 / 3 0 1 5 / 2 0 2 / 2 0 3
            paths(0) = 4 0 1 4 7 / 4 0 1 4 8 / 4 0 1 5 7 / 4 0 1 5 8 / 3 0 1 6 / 5 0 2 3 4 7 / 5 0 2 3 4 8 / 5 0 2 3 5 7 / 5 0 2 3 5 8 / 4 0 2 3 6
            begin(0, 0, 0, 0) = 1
            run(9) = 4
            gone(0, *) = 0 1 0 0 0 0 0 0 0 0 -1
            gone(1, *) = 0 0 1 0 -1
            most(0, *) = 1 -1
            most(1, *) = 2 -1
            argument(0, 1) = 0
            begin(0, 0, 0, 0) = 1
            run(9) = 6
            gone(0, *) = 0 0 0 0 0 0 0 1 0 0 -1
            gone(1, *) = 0 1 0 0 -1
            most(0, *) = 7 -1
            most(1, *) = 1 -1
            argument(0, 2) = 1
            begin(0, 0, 0, 0) = 1
            run(9) = 5
            gone(0, *) = 0 0 1 0 0 0 0 0 0 0 -1
            gone(1, *) = 1 0 0 0 -1
            most(0, *) = 2 -1
            most(1, *) = 0 -1
            text `a(p){x=1/0;}b(){if(nil+1){}}c(){b();}` = 3
            begin(0, 0, 0, 0) = 1
            run(9) = 1
            gone(0, *) = 0 1 -1
            most(0, *) = 1 -1
            begin(2, 0, 0, 0) = 1
            run(9) = 2
            gone(1, *) = 0 0 1 -1
            gone(2, *) = 0 1 -1
            most(1, *) = 2 -1
            """);
        Due.play("Promise 16: counts are those gone so far, ENTRY's with the call", """
            text `a(){x=b()+b();}b(){return c();}c(){}` = 3
            begin(0, 0, 0, 0) = 1
            count(0, *) = 1 0 0
            count(1, *) = 0 0 0
            run(1) = 1
            count(1, *) = 1 0 0
            count(2, *) = 0 -1
            run(1) = 1
            count(0, *) = 1 0 0
            count(1, *) = 2 1 0
            count(2, *) = 1 -1
            run(1) = 1
            count(0, *) = 1 1 0
            count(1, *) = 2 2 0
            count(2, *) = 2 -1
            state(*) = 2 3
            """);
    }

    private static void weighed() {
        Due.play("Promise 8: NONE for another how, without a text, with 1 without a run; it leaves all as it was", """
            weigh(0) = -1
            weigh(1) = -1
            outside weigh(0..1) = -1
            text `a(){for i=1 to 3{if(i=2){x=i;}}}` = 1
            outside weigh(0..1) = -1
            weigh(1) = -1
            weights(0) = 1 0 / 1 0 / 0 1 / 10 0 / 1 1 / 10 0 / 10 1 / 0 1 / 10 1 / 0 1
            begin(0, 0, 0, 0) = 1
            run(5) = 5
            outside weigh(0..1) = -1
            state(*) = 1 5 0
            weights(0) = 1 0 / 1 0 / 0 1 / 10 0 / 1 1 / 10 0 / 10 1 / 0 1 / 10 1 / 0 1
            """);
        Due.play("Promise 8: from now on by DEPTH (0), or the counts of the run as they are now (1); the run goes then", """
            text `a(){for i=1 to 3{if(i=2){x=i;}}}` = 1
            begin(0, 0, 0, 0) = 1
            run(20000) = 9
            state(6) = 4
            weigh(1) = 1
            state(0) = 0
            run(1) = -1
            weights(0) = 1 0 / 1 0 / 0 1 / 3 0 / 1 1 / 1 0 / 2 1 / 0 1 / 1 1 / 0 1
            member(0, 7) = 6
            weigh(1) = -1
            begin(0, 0, 0, 0) = 1
            run(20000) = 9
            state(6) = 4
            weigh(0) = 1
            state(0) = 0
            run(1) = -1
            weights(0) = 1 0 / 1 0 / 0 1 / 10 0 / 1 1 / 10 0 / 10 1 / 0 1 / 10 1 / 0 1
            weigh(0) = 1
            member(0, 7) = 6
            """);
        Due.play("Promise 8: weights of a run with no step, by counts those of failure, too", """
            text `a(){x=1/0;}` = 1
            begin(0, 0, 0, 0) = 1
            weigh(1) = 1
            weights(0) = 1 0 / 0 1 / 0 1
            begin(0, 0, 0, 0) = 1
            run(1) = 1
            weigh(1) = 1
            weights(0) = 1 0 / 0 1 / 1 1
            begin(0, 0, 0, 0) = 1
            run(1) = 1
            state(6) = 1
            text `a(){try{throw 1;}catch e{return 2;}x=1;}` = 1
            weights(0) = 1 0 / 0 1 / 1 0 / 1 0 / 0 1 / 1 0 / 0 1
            begin(0, 0, 0, 0) = 1
            run(9) = 3
            weigh(1) = 1
            weights(0) = 1 0 / 1 0 / 1 0 / 1 1 / 0 1 / 0 0 / 0 1
            """);
    }
}

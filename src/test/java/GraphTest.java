/** Plays for the promises that their titles name; see Due for what the lines mean. */
public final class GraphTest {
    public static void main(String[] arguments) {
        Due.play("Promises 5, 6, 7: an empty member", """
            text ` f(){}` = 1
            member(0, *) = 1 0 0 3 1 0 1 1 -1
            member(0, -1) = -1
            member(1, 0) = -1
            member(-1, 0) = -1
            node(0, 0, *) = 0 1 0 -1
            node(0, 1, *) = 1 1 0
            node(0, 2, *) = 2 1 0
            node(0, 3, 0) = -1
            node(0, -1, 0) = -1
            node(1, 0, 0) = -1
            node(0, 0, -1) = -1
            way(0, 0, *) = 0 1 0 0 1 1 -1
            way(0, 0, -1) = -1
            way(0, 1, 0) = -1
            way(0, -1, 0) = -1
            way(1, 0, 0) = -1
            """);
        Due.play("Promises 5, 6, 7: each KIND with its place, its DEPTH and its ways", """
            text `var v;g(p){x=1;v[0]=p;g(x);if(p){x=2;}else{x=3;}while(p){break;}for i=1 to 2{print i;}try{throw 5;}catch e{lock 3{join 1;}}return 4;}h(){}` = 2
            member(0, *) = 6 1 4 20 33 2 57 16
            member(1, *) = 133 0 0 3 1 0 1 1
            nodes(0) = 0 6 0 / 1 6 0 / 2 6 0 / 3 11 0 / 4 15 0 / 5 22 0 / 6 27 0 / 3 33 0 / 3 43 0 / 6 48 1 / 16 57 1 / 7 64 0 / 8 64 1 / 15 77 1 / 10 90 0 / 11 99 0 / 12 107 0 / 14 114 0 / 13 121 0 / 9 123 0
            ways(0) = 0 3 0 0 1 0 / 3 4 0 0 1 0 / 3 2 3 0 0 1 / 4 5 0 0 1 0 / 4 2 3 0 0 1 / 5 6 0 0 1 0 / 5 2 3 0 0 1 / 6 7 1 0 1 0 / 6 8 2 0 1 0 / 6 2 3 0 0 1 / 7 9 0 0 1 0 / 7 2 3 0 0 1 / 8 9 0 0 1 1 / 8 2 3 0 0 1 / 9 10 1 0 10 0 / 9 11 2 0 1 0 / 9 2 3 0 0 1 / 10 11 0 0 1 1 / 11 12 0 0 1 0 / 11 2 3 0 0 1 / 12 13 1 0 10 0 / 12 14 2 0 1 0 / 13 12 0 1 10 1 / 13 2 3 0 0 1 / 14 15 3 0 0 1 / 15 16 0 0 1 0 / 16 17 0 0 1 0 / 16 2 3 0 0 1 / 17 18 0 0 1 0 / 17 2 3 0 0 1 / 18 19 0 0 1 0 / 19 1 0 0 1 0 / 19 2 3 0 0 1
            ways(1) = 0 1 0 0 1 1
            """);
        Due.play("Promise 7: FIRST and NEXT of bodies without statements", """
            text `a(){if(1){}else{}if(1){}while(1){}for i=1 to 2{}lock 1{}try{}catch e{}try{try{}catch f{}}catch g{}}` = 1
            member(0, *) = 0 0 4 13 20 2 36 10
            nodes(0) = 0 0 0 / 1 0 0 / 2 0 0 / 6 4 0 / 6 17 0 / 6 24 1 / 7 34 0 / 8 34 1 / 12 48 0 / 13 55 0 / 11 61 0 / 11 79 0 / 11 89 0
            ways(0) = 0 3 0 0 1 0 / 3 4 1 0 1 0 / 3 4 2 0 1 1 / 3 2 3 0 0 1 / 4 5 1 0 1 0 / 4 5 2 0 1 1 / 4 2 3 0 0 1 / 5 5 1 1 10 1 / 5 6 2 0 1 0 / 5 2 3 0 0 1 / 6 7 0 0 1 0 / 6 2 3 0 0 1 / 7 7 1 1 10 1 / 7 8 2 0 1 0 / 8 9 0 0 1 0 / 8 2 3 0 0 1 / 9 1 0 0 1 1 / 10 1 0 0 1 0 / 11 1 0 0 1 0 / 12 1 0 0 1 0
            """);
        Due.play("Promise 7: NEXT of last statements, failure ways of nested tries, BREAK out of locks", """
            text `a(){while(1){try{try{x=1;}catch e{y=1;}z=1;}catch f{if(1){break;}lock 1{break;}}}for i=1 to 2{if(i){for j=1 to 2{throw j;}}}}` = 1
            member(0, *) = 0 0 7 20 32 3 124 15
            nodes(0) = 0 0 0 / 1 0 0 / 2 0 0 / 6 4 1 / 3 21 1 / 11 26 1 / 3 34 1 / 3 39 1 / 11 44 1 / 6 52 1 / 16 58 1 / 12 65 1 / 16 72 1 / 13 78 1 / 7 81 0 / 8 81 1 / 6 94 1 / 7 100 1 / 8 100 2 / 10 113 2
            ways(0) = 0 3 0 0 1 0 / 3 4 1 0 10 0 / 3 14 2 0 1 0 / 3 2 3 0 0 1 / 4 7 0 0 10 0 / 4 5 3 0 0 1 / 5 6 0 0 10 0 / 6 7 0 0 10 0 / 6 8 3 0 0 1 / 7 3 0 1 10 1 / 7 8 3 0 0 1 / 8 9 0 0 10 0 / 9 10 1 0 10 0 / 9 11 2 0 10 0 / 9 2 3 0 0 1 / 10 14 0 0 1 0 / 11 12 0 0 10 0 / 11 2 3 0 0 1 / 12 14 0 0 1 1 / 13 3 0 1 10 0 / 14 15 0 0 1 0 / 14 2 3 0 0 1 / 15 16 1 0 10 0 / 15 1 2 0 1 1 / 16 17 1 0 10 0 / 16 15 2 1 10 1 / 16 2 3 0 0 1 / 17 18 0 0 10 0 / 17 2 3 0 0 1 / 18 19 1 0 100 0 / 18 15 2 1 10 1 / 19 2 3 0 0 1
            """);
        Due.play("Promise 7: what stands behind a return, and a body that is left at once", """
            text `a(){return 1;x=2;while(x){return 2;}}b(){try{}catch e{while(1){}}}` = 2
            member(0, *) = 0 0 1 7 10 1 6 6
            ways(0) = 0 3 0 0 1 0 / 3 1 0 0 1 1 / 3 2 3 0 0 1 / 4 5 0 0 1 0 / 4 2 3 0 0 1 / 5 6 1 0 10 0 / 5 1 2 0 1 0 / 5 2 3 0 0 1 / 6 1 0 0 1 1 / 6 2 3 0 0 1
            member(1, *) = 37 0 1 5 5 1 4 3
            ways(1) = 0 1 0 0 1 1 / 3 4 0 0 1 0 / 4 4 1 1 10 1 / 4 1 2 0 1 0 / 4 2 3 0 0 1
            """);
        Due.play("Promise 7: WEIGHTS up to 10 to the 9th", """
            text `a(){while(1){while(1){while(1){while(1){while(1){while(1){while(1){while(1){while(1){while(1){x=1;}}}}}}}}}}}` = 1
            node(0, 13, *) = 3 94 10
            way(0, 28, *) = 12 13 1 0 1000000000 0
            way(0, 31, *) = 13 12 0 1 1000000000 1
            way(0, 32, *) = 13 2 3 0 0 1
            way(0, 1, 4) = 10
            member(0, 7) = 22
            """);
        Due.play("Promise 5: exactly 1,000,000 PATHS, and more", """
            text `a(){if(x){x=0;}if(x){x=0;}if(x){x=0;}}` = 1
            member(0, 6) = 22
            text `a(){x=1;if(1){}if(1){}if(1){}if(1){}if(1){}if(1){}x=1;if(1){}if(1){}if(1){}x=1;if(1){}if(1){}if(1){}if(1){}if(1){}x=1;if(1){}if(1){}x=1;if(1){}x=1;if(1){}x=1;}` = 1
            member(0, 6) = 1000000
            path(0, 999999, -1) = 2
            path(0, 999999, 0) = 0
            path(0, 999999, 1) = 2
            path(0, 1000000, -1) = -1
            path(0, 0, -1) = 26
            path(0, 499999, *) = 0 1 4 6 9 12 15 18 21 23 26 29
            path(0, 500000, *) = 0 1 4 6 9 12 15 18 21 23 26 29
            begin(0, 0, 0, 0) = 1
            run(20000) = 25
            most(0, *) = 0 -1
            gone(0, 0) = 1
            gone(0, 999999) = 0
            gone(0, 1000000) = -1
            text `a(){x=1;x=1;if(1){}if(1){}if(1){}if(1){}if(1){}if(1){}x=1;if(1){}if(1){}if(1){}x=1;if(1){}if(1){}if(1){}if(1){}if(1){}x=1;if(1){}if(1){}x=1;if(1){}x=1;if(1){}x=1;}` = 1
            member(0, 6) = -1
            path(0, 0, -1) = -1
            begin(0, 0, 0, 0) = 1
            run(20000) = 26
            most(0, 0) = -1
            gone(0, 0) = -1
            text `a(){x=if1(1);}if1(p){try{}catch a{}try{}catch b{}}` = 2
            member(1, 6) = 1
            text `a(){b();b();b();b();b();b();b();b();b();b();b();b();b();b();b();b();b();b();b();b();b();b();b();b();b();}b(){if(1){}if(1){}if(1){}if(1){}if(1){}if(1){}if(1){}if(1){}if(1){}if(1){}if(1){}if(1){}if(1){}if(1){}if(1){}if(1){}if(1){}if(1){}if(1){}if(1){}}` = 2
            member(0, 6) = 26
            member(1, 6) = -1
            path(1, 0, -1) = -1
            begin(1, 0, 0, 0) = 1
            run(100) = 20
            gone(1, 0) = -1
            most(1, 0) = -1
            count(1, 0) = 1
            """);
        Due.play("Promise 18: PATHS by NUMBER, from ENTRY first, then from each loop", """
            text `a(p){while(p){p=p-1;}for i=1 to 2{if(i){break;}}}` = 1
            member(0, 6) = 20
            paths(0) = 3 0 1 4 / 3 0 1 5 / 6 0 2 6 8 10 13 / 5 0 2 6 8 11 / 5 0 2 6 8 12 / 4 0 2 6 9 / 3 0 2 7 / 2 0 3 / 2 1 4 / 2 1 5 / 5 2 6 8 10 13 / 4 2 6 8 11 / 4 2 6 8 12 / 3 2 6 9 / 2 2 7 / 1 3 / 3 8 10 13 / 2 8 11 / 2 8 12 / 1 9
            path(0, 0, -1) = 3
            path(0, 0, -2) = -1
            path(0, -1, 0) = -1
            path(0, 9999, 0) = -1
            path(1, 0, 0) = -1
            path(-1, 0, 0) = -1
            """);
        Due.play("Promise 18: PATHS from a loop that nothing comes back to, and from one that is never come to", """
            text `a(){while(1){break;}return 1;while(x){x=1;}}` = 1
            member(0, 6) = 14
            paths(0) = 4 0 1 4 5 / 4 0 1 4 6 / 3 0 2 5 / 3 0 2 6 / 2 0 3 / 3 1 4 5 / 3 1 4 6 / 2 2 5 / 2 2 6 / 1 3 / 2 7 10 / 2 7 11 / 1 8 / 1 9
            """);
        Due.play("Promise 8: weights by the counts of a run, the run is gone then", """
            text `a(){x=0;while(x<5){x=x+1;if(x=3){try{throw 1;}catch e{}}}y=1/0;}` = 1
            weigh(1) = -1
            weigh(2) = -1
            weigh(-1) = -1
            weights(0) = 1 0 / 1 0 / 0 1 / 10 0 / 1 0 / 0 1 / 10 0 / 0 1 / 10 0 / 10 1 / 0 1 / 0 1 / 10 0 / 1 1 / 0 1
            begin(0, 0, 0, 0) = 1
            run(20000) = 20
            state(0) = 2
            state(6) = 6
            weigh(2) = -1
            state(0) = 2
            weigh(1) = 1
            state(0) = 0
            state(6) = -1
            count(0, 0) = -1
            weigh(1) = -1
            weights(0) = 1 0 / 1 0 / 0 1 / 5 0 / 1 0 / 0 1 / 5 0 / 0 1 / 1 0 / 4 1 / 0 1 / 1 0 / 1 1 / 0 1 / 1 1
            member(0, 7) = 8
            begin(0, 0, 0, 0) = 1
            run(20000) = 20
            state(6) = 6
            weigh(0) = 1
            state(0) = 0
            weights(0) = 1 0 / 1 0 / 0 1 / 10 0 / 1 0 / 0 1 / 10 0 / 0 1 / 10 0 / 10 1 / 0 1 / 0 1 / 10 0 / 1 1 / 0 1
            member(0, 7) = 8
            """);
        Due.play("Promise 8: counts as they are in the midst of a run", """
            text `a(){for i=1 to 9{if(i%2){x=i;}}}` = 1
            begin(0, 0, 0, 0) = 1
            run(7) = 7
            weigh(1) = 1
            weights(0) = 1 0 / 1 0 / 0 1 / 3 0 / 0 1 / 1 0 / 1 1 / 0 1 / 1 1 / 0 1
            thread(0, 0) = -1
            tree(0, 0) = -1
            """);
        Due.end("GraphTest");
    }
}
